section
-- ===== PART A: goes FIRST, ahead of the names: the tables' words, and 'selects' of the private methods out of them =====
/-- a private method of a class that the tables say can be made, by its rows of tables_1 -/
def lw_okq (q : MethodName × Nat) : Prop := (q.1.cls ≠ "java/lang/invoke/MethodHandle" ∧ q.1.cls ≠ "java/lang/invoke/VarHandle") ∧ Cond.instantiable q.1.cls q.2 ∈ tables_1 ∧ Cond.privateMethod q.1 ∈ tables_1 ∧ Cond.instanceMethod q.1 ∈ tables_1
theorem lw_p0 : lw_okq (⟨"LampValley", "putBytes", "(I)V"⟩, 15) := ⟨⟨by decide +kernel, by decide +kernel⟩, List.mem_of_getElem? (i := 22) (by decide +kernel), List.mem_of_getElem? (i := 322) (by decide +kernel), List.mem_of_getElem? (i := 323) (by decide +kernel)⟩
theorem lw_p1 : lw_okq (⟨"java/lang/Throwable", "fillInStackTrace", "(I)Ljava/lang/Throwable;"⟩, 6) := ⟨⟨by decide +kernel, by decide +kernel⟩, List.mem_of_getElem? (i := 391) (by decide +kernel), List.mem_of_getElem? (i := 389) (by decide +kernel), List.mem_of_getElem? (i := 390) (by decide +kernel)⟩
theorem lw_p2 : lw_okq (⟨"LampValley$Reader", "advance", "()V"⟩, 10) := ⟨⟨by decide +kernel, by decide +kernel⟩, List.mem_of_getElem? (i := 198) (by decide +kernel), List.mem_of_getElem? (i := 424) (by decide +kernel), List.mem_of_getElem? (i := 425) (by decide +kernel)⟩
theorem lw_p3 : lw_okq (⟨"LampValley$Reader", "classify", "(I)I"⟩, 10) := ⟨⟨by decide +kernel, by decide +kernel⟩, List.mem_of_getElem? (i := 198) (by decide +kernel), List.mem_of_getElem? (i := 428) (by decide +kernel), List.mem_of_getElem? (i := 429) (by decide +kernel)⟩
theorem lw_p4 : lw_okq (⟨"LampValley$Reader", "readLine", "(I)V"⟩, 10) := ⟨⟨by decide +kernel, by decide +kernel⟩, List.mem_of_getElem? (i := 198) (by decide +kernel), List.mem_of_getElem? (i := 432) (by decide +kernel), List.mem_of_getElem? (i := 433) (by decide +kernel)⟩
theorem lw_p5 : lw_okq (⟨"LampValley$Reader", "findWord", "()I"⟩, 10) := ⟨⟨by decide +kernel, by decide +kernel⟩, List.mem_of_getElem? (i := 198) (by decide +kernel), List.mem_of_getElem? (i := 436) (by decide +kernel), List.mem_of_getElem? (i := 437) (by decide +kernel)⟩
theorem lw_p6 : lw_okq (⟨"LampValley$Reader", "isSpelt", "(II)Z"⟩, 10) := ⟨⟨by decide +kernel, by decide +kernel⟩, List.mem_of_getElem? (i := 198) (by decide +kernel), List.mem_of_getElem? (i := 489) (by decide +kernel), List.mem_of_getElem? (i := 490) (by decide +kernel)⟩
theorem lw_p7 : lw_okq (⟨"LampValley$Reader", "judgeWord", "(II)I"⟩, 10) := ⟨⟨by decide +kernel, by decide +kernel⟩, List.mem_of_getElem? (i := 198) (by decide +kernel), List.mem_of_getElem? (i := 493) (by decide +kernel), List.mem_of_getElem? (i := 494) (by decide +kernel)⟩
theorem lw_p8 : lw_okq (⟨"LampValley$Reader", "refuse", "(II)V"⟩, 10) := ⟨⟨by decide +kernel, by decide +kernel⟩, List.mem_of_getElem? (i := 198) (by decide +kernel), List.mem_of_getElem? (i := 497) (by decide +kernel), List.mem_of_getElem? (i := 498) (by decide +kernel)⟩
theorem lw_p9 : lw_okq (⟨"LampValley$Reader", "readKind", "(I)V"⟩, 10) := ⟨⟨by decide +kernel, by decide +kernel⟩, List.mem_of_getElem? (i := 198) (by decide +kernel), List.mem_of_getElem? (i := 501) (by decide +kernel), List.mem_of_getElem? (i := 502) (by decide +kernel)⟩
theorem lw_p10 : lw_okq (⟨"LampValley$Reader", "readNumber", "(III)I"⟩, 10) := ⟨⟨by decide +kernel, by decide +kernel⟩, List.mem_of_getElem? (i := 198) (by decide +kernel), List.mem_of_getElem? (i := 505) (by decide +kernel), List.mem_of_getElem? (i := 506) (by decide +kernel)⟩
theorem lw_p11 : lw_okq (⟨"LampValley$Reader", "readLikes", "()V"⟩, 10) := ⟨⟨by decide +kernel, by decide +kernel⟩, List.mem_of_getElem? (i := 198) (by decide +kernel), List.mem_of_getElem? (i := 513) (by decide +kernel), List.mem_of_getElem? (i := 514) (by decide +kernel)⟩
theorem lw_p12 : lw_okq (⟨"LampValley$Reader", "readLamp", "()I"⟩, 10) := ⟨⟨by decide +kernel, by decide +kernel⟩, List.mem_of_getElem? (i := 198) (by decide +kernel), List.mem_of_getElem? (i := 517) (by decide +kernel), List.mem_of_getElem? (i := 518) (by decide +kernel)⟩
theorem lw_p13 : lw_okq (⟨"LampValley$Reader", "readFog", "()V"⟩, 10) := ⟨⟨by decide +kernel, by decide +kernel⟩, List.mem_of_getElem? (i := 198) (by decide +kernel), List.mem_of_getElem? (i := 521) (by decide +kernel), List.mem_of_getElem? (i := 522) (by decide +kernel)⟩
theorem lw_p14 : lw_okq (⟨"LampValley$Reader", "readSetting", "(I)V"⟩, 10) := ⟨⟨by decide +kernel, by decide +kernel⟩, List.mem_of_getElem? (i := 198) (by decide +kernel), List.mem_of_getElem? (i := 529) (by decide +kernel), List.mem_of_getElem? (i := 530) (by decide +kernel)⟩
theorem lw_p15 : lw_okq (⟨"LampValley", "requireLamp", "(I)V"⟩, 15) := ⟨⟨by decide +kernel, by decide +kernel⟩, List.mem_of_getElem? (i := 22) (by decide +kernel), List.mem_of_getElem? (i := 564) (by decide +kernel), List.mem_of_getElem? (i := 565) (by decide +kernel)⟩
def lw_privs_1 : List (MethodName × Nat) := [(⟨"LampValley", "putBytes", "(I)V"⟩, 15), (⟨"java/lang/Throwable", "fillInStackTrace", "(I)Ljava/lang/Throwable;"⟩, 6), (⟨"LampValley$Reader", "advance", "()V"⟩, 10), (⟨"LampValley$Reader", "classify", "(I)I"⟩, 10), (⟨"LampValley$Reader", "readLine", "(I)V"⟩, 10), (⟨"LampValley$Reader", "findWord", "()I"⟩, 10), (⟨"LampValley$Reader", "isSpelt", "(II)Z"⟩, 10), (⟨"LampValley$Reader", "judgeWord", "(II)I"⟩, 10), (⟨"LampValley$Reader", "refuse", "(II)V"⟩, 10), (⟨"LampValley$Reader", "readKind", "(I)V"⟩, 10), (⟨"LampValley$Reader", "readNumber", "(III)I"⟩, 10), (⟨"LampValley$Reader", "readLikes", "()V"⟩, 10), (⟨"LampValley$Reader", "readLamp", "()I"⟩, 10), (⟨"LampValley$Reader", "readFog", "()V"⟩, 10), (⟨"LampValley$Reader", "readSetting", "(I)V"⟩, 10), (⟨"LampValley", "requireLamp", "(I)V"⟩, 15)]
theorem lw_r1 : ∀ q ∈ lw_privs_1, lw_okq q := List.forall_mem_cons.mpr ⟨lw_p0, List.forall_mem_cons.mpr ⟨lw_p1, List.forall_mem_cons.mpr ⟨lw_p2, List.forall_mem_cons.mpr ⟨lw_p3, List.forall_mem_cons.mpr ⟨lw_p4, List.forall_mem_cons.mpr ⟨lw_p5, List.forall_mem_cons.mpr ⟨lw_p6, List.forall_mem_cons.mpr ⟨lw_p7, List.forall_mem_cons.mpr ⟨lw_p8, List.forall_mem_cons.mpr ⟨lw_p9, List.forall_mem_cons.mpr ⟨lw_p10, List.forall_mem_cons.mpr ⟨lw_p11, List.forall_mem_cons.mpr ⟨lw_p12, List.forall_mem_cons.mpr ⟨lw_p13, List.forall_mem_cons.mpr ⟨lw_p14, List.forall_mem_cons.mpr ⟨lw_p15, fun _ h => absurd h List.not_mem_nil⟩⟩⟩⟩⟩⟩⟩⟩⟩⟩⟩⟩⟩⟩⟩⟩
theorem lw_p16 : lw_okq (⟨"LampValley$Way", "isHeld", "(LLampValley$Scene;I)Z"⟩, 5) := ⟨⟨by decide +kernel, by decide +kernel⟩, List.mem_of_getElem? (i := 237) (by decide +kernel), List.mem_of_getElem? (i := 607) (by decide +kernel), List.mem_of_getElem? (i := 608) (by decide +kernel)⟩
theorem lw_p17 : lw_okq (⟨"LampValley$Way", "findGoal", "(LLampValley$Scene;II)I"⟩, 5) := ⟨⟨by decide +kernel, by decide +kernel⟩, List.mem_of_getElem? (i := 237) (by decide +kernel), List.mem_of_getElem? (i := 612) (by decide +kernel), List.mem_of_getElem? (i := 613) (by decide +kernel)⟩
theorem lw_p18 : lw_okq (⟨"LampValley$Way", "goTowards", "(LLampValley$Scene;II)V"⟩, 5) := ⟨⟨by decide +kernel, by decide +kernel⟩, List.mem_of_getElem? (i := 237) (by decide +kernel), List.mem_of_getElem? (i := 620) (by decide +kernel), List.mem_of_getElem? (i := 621) (by decide +kernel)⟩
theorem lw_p19 : lw_okq (⟨"LampValley$Way", "stagger", "(I)V"⟩, 5) := ⟨⟨by decide +kernel, by decide +kernel⟩, List.mem_of_getElem? (i := 237) (by decide +kernel), List.mem_of_getElem? (i := 624) (by decide +kernel), List.mem_of_getElem? (i := 625) (by decide +kernel)⟩
theorem lw_p20 : lw_okq (⟨"LampValley$Scene", "marry", "(II)V"⟩, 6) := ⟨⟨by decide +kernel, by decide +kernel⟩, List.mem_of_getElem? (i := 36) (by decide +kernel), List.mem_of_getElem? (i := 634) (by decide +kernel), List.mem_of_getElem? (i := 635) (by decide +kernel)⟩
theorem lw_p21 : lw_okq (⟨"LampValley", "findRound", "()I"⟩, 15) := ⟨⟨by decide +kernel, by decide +kernel⟩, List.mem_of_getElem? (i := 22) (by decide +kernel), List.mem_of_getElem? (i := 696) (by decide +kernel), List.mem_of_getElem? (i := 697) (by decide +kernel)⟩
theorem lw_p22 : lw_okq (⟨"LampValley", "allLamps", "()I"⟩, 15) := ⟨⟨by decide +kernel, by decide +kernel⟩, List.mem_of_getElem? (i := 22) (by decide +kernel), List.mem_of_getElem? (i := 705) (by decide +kernel), List.mem_of_getElem? (i := 706) (by decide +kernel)⟩
theorem lw_p23 : lw_okq (⟨"LampValley$Council", "seat", "(I)V"⟩, 5) := ⟨⟨by decide +kernel, by decide +kernel⟩, List.mem_of_getElem? (i := 94) (by decide +kernel), List.mem_of_getElem? (i := 739) (by decide +kernel), List.mem_of_getElem? (i := 740) (by decide +kernel)⟩
theorem lw_p24 : lw_okq (⟨"LampValley$Council", "giveRow", "(LLampValley$Scene;I)Z"⟩, 5) := ⟨⟨by decide +kernel, by decide +kernel⟩, List.mem_of_getElem? (i := 94) (by decide +kernel), List.mem_of_getElem? (i := 744) (by decide +kernel), List.mem_of_getElem? (i := 745) (by decide +kernel)⟩
theorem lw_p25 : lw_okq (⟨"LampValley$Council", "choiceOf", "(II)I"⟩, 5) := ⟨⟨by decide +kernel, by decide +kernel⟩, List.mem_of_getElem? (i := 94) (by decide +kernel), List.mem_of_getElem? (i := 750) (by decide +kernel), List.mem_of_getElem? (i := 751) (by decide +kernel)⟩
theorem lw_p26 : lw_okq (⟨"LampValley", "areChildren", "(I)Z"⟩, 15) := ⟨⟨by decide +kernel, by decide +kernel⟩, List.mem_of_getElem? (i := 22) (by decide +kernel), List.mem_of_getElem? (i := 779) (by decide +kernel), List.mem_of_getElem? (i := 780) (by decide +kernel)⟩
theorem lw_p27 : lw_okq (⟨"LampValley$Council", "rests", "(I)Z"⟩, 5) := ⟨⟨by decide +kernel, by decide +kernel⟩, List.mem_of_getElem? (i := 94) (by decide +kernel), List.mem_of_getElem? (i := 788) (by decide +kernel), List.mem_of_getElem? (i := 789) (by decide +kernel)⟩
theorem lw_p28 : lw_okq (⟨"LampValley$Council", "writeFigures", "(I)I"⟩, 5) := ⟨⟨by decide +kernel, by decide +kernel⟩, List.mem_of_getElem? (i := 94) (by decide +kernel), List.mem_of_getElem? (i := 796) (by decide +kernel), List.mem_of_getElem? (i := 797) (by decide +kernel)⟩
theorem lw_p29 : lw_okq (⟨"LampValley", "leftByBook", "(I)I"⟩, 15) := ⟨⟨by decide +kernel, by decide +kernel⟩, List.mem_of_getElem? (i := 22) (by decide +kernel), List.mem_of_getElem? (i := 807) (by decide +kernel), List.mem_of_getElem? (i := 808) (by decide +kernel)⟩
theorem lw_p30 : lw_okq (⟨"LampValley", "leftByNight", "(II)I"⟩, 15) := ⟨⟨by decide +kernel, by decide +kernel⟩, List.mem_of_getElem? (i := 22) (by decide +kernel), List.mem_of_getElem? (i := 819) (by decide +kernel), List.mem_of_getElem? (i := 820) (by decide +kernel)⟩
theorem lw_p31 : lw_okq (⟨"LampValley", "isSeen", "(I)Z"⟩, 15) := ⟨⟨by decide +kernel, by decide +kernel⟩, List.mem_of_getElem? (i := 22) (by decide +kernel), List.mem_of_getElem? (i := 824) (by decide +kernel), List.mem_of_getElem? (i := 825) (by decide +kernel)⟩
def lw_privs_2 : List (MethodName × Nat) := [(⟨"LampValley$Way", "isHeld", "(LLampValley$Scene;I)Z"⟩, 5), (⟨"LampValley$Way", "findGoal", "(LLampValley$Scene;II)I"⟩, 5), (⟨"LampValley$Way", "goTowards", "(LLampValley$Scene;II)V"⟩, 5), (⟨"LampValley$Way", "stagger", "(I)V"⟩, 5), (⟨"LampValley$Scene", "marry", "(II)V"⟩, 6), (⟨"LampValley", "findRound", "()I"⟩, 15), (⟨"LampValley", "allLamps", "()I"⟩, 15), (⟨"LampValley$Council", "seat", "(I)V"⟩, 5), (⟨"LampValley$Council", "giveRow", "(LLampValley$Scene;I)Z"⟩, 5), (⟨"LampValley$Council", "choiceOf", "(II)I"⟩, 5), (⟨"LampValley", "areChildren", "(I)Z"⟩, 15), (⟨"LampValley$Council", "rests", "(I)Z"⟩, 5), (⟨"LampValley$Council", "writeFigures", "(I)I"⟩, 5), (⟨"LampValley", "leftByBook", "(I)I"⟩, 15), (⟨"LampValley", "leftByNight", "(II)I"⟩, 15), (⟨"LampValley", "isSeen", "(I)Z"⟩, 15)]
theorem lw_r2 : ∀ q ∈ lw_privs_2, lw_okq q := List.forall_mem_cons.mpr ⟨lw_p16, List.forall_mem_cons.mpr ⟨lw_p17, List.forall_mem_cons.mpr ⟨lw_p18, List.forall_mem_cons.mpr ⟨lw_p19, List.forall_mem_cons.mpr ⟨lw_p20, List.forall_mem_cons.mpr ⟨lw_p21, List.forall_mem_cons.mpr ⟨lw_p22, List.forall_mem_cons.mpr ⟨lw_p23, List.forall_mem_cons.mpr ⟨lw_p24, List.forall_mem_cons.mpr ⟨lw_p25, List.forall_mem_cons.mpr ⟨lw_p26, List.forall_mem_cons.mpr ⟨lw_p27, List.forall_mem_cons.mpr ⟨lw_p28, List.forall_mem_cons.mpr ⟨lw_p29, List.forall_mem_cons.mpr ⟨lw_p30, List.forall_mem_cons.mpr ⟨lw_p31, fun _ h => absurd h List.not_mem_nil⟩⟩⟩⟩⟩⟩⟩⟩⟩⟩⟩⟩⟩⟩⟩⟩
theorem lw_p32 : lw_okq (⟨"LampValley", "drawLikes", "(I)I"⟩, 15) := ⟨⟨by decide +kernel, by decide +kernel⟩, List.mem_of_getElem? (i := 22) (by decide +kernel), List.mem_of_getElem? (i := 850) (by decide +kernel), List.mem_of_getElem? (i := 851) (by decide +kernel)⟩
theorem lw_p33 : lw_okq (⟨"LampValleyModel", "fail", "(I)I"⟩, 48) := ⟨⟨by decide +kernel, by decide +kernel⟩, List.mem_of_getElem? (i := 864) (by decide +kernel), List.mem_of_getElem? (i := 1038) (by decide +kernel), List.mem_of_getElem? (i := 1039) (by decide +kernel)⟩
theorem lw_p34 : lw_okq (⟨"LampValleyModel", "stepOn", "()V"⟩, 48) := ⟨⟨by decide +kernel, by decide +kernel⟩, List.mem_of_getElem? (i := 864) (by decide +kernel), List.mem_of_getElem? (i := 1042) (by decide +kernel), List.mem_of_getElem? (i := 1043) (by decide +kernel)⟩
theorem lw_p35 : lw_okq (⟨"LampValleyModel", "byteAt", "(I)I"⟩, 48) := ⟨⟨by decide +kernel, by decide +kernel⟩, List.mem_of_getElem? (i := 864) (by decide +kernel), List.mem_of_getElem? (i := 1046) (by decide +kernel), List.mem_of_getElem? (i := 1047) (by decide +kernel)⟩
theorem lw_p36 : lw_okq (⟨"LampValleyModel", "readLine", "(I)I"⟩, 48) := ⟨⟨by decide +kernel, by decide +kernel⟩, List.mem_of_getElem? (i := 864) (by decide +kernel), List.mem_of_getElem? (i := 1057) (by decide +kernel), List.mem_of_getElem? (i := 1058) (by decide +kernel)⟩
theorem lw_p37 : lw_okq (⟨"LampValleyModel", "which", "([Ljava/lang/String;)I"⟩, 48) := ⟨⟨by decide +kernel, by decide +kernel⟩, List.mem_of_getElem? (i := 864) (by decide +kernel), List.mem_of_getElem? (i := 1061) (by decide +kernel), List.mem_of_getElem? (i := 1062) (by decide +kernel)⟩
theorem lw_p38 : lw_okq (⟨"LampValleyModel", "is", "(Ljava/lang/String;)Z"⟩, 48) := ⟨⟨by decide +kernel, by decide +kernel⟩, List.mem_of_getElem? (i := 864) (by decide +kernel), List.mem_of_getElem? (i := 1065) (by decide +kernel), List.mem_of_getElem? (i := 1066) (by decide +kernel)⟩
theorem lw_p39 : lw_okq (⟨"LampValleyModel", "wrong", "(I)V"⟩, 48) := ⟨⟨by decide +kernel, by decide +kernel⟩, List.mem_of_getElem? (i := 864) (by decide +kernel), List.mem_of_getElem? (i := 1072) (by decide +kernel), List.mem_of_getElem? (i := 1073) (by decide +kernel)⟩
theorem lw_p40 : lw_okq (⟨"LampValleyModel", "readBy", "(III)V"⟩, 48) := ⟨⟨by decide +kernel, by decide +kernel⟩, List.mem_of_getElem? (i := 864) (by decide +kernel), List.mem_of_getElem? (i := 1076) (by decide +kernel), List.mem_of_getElem? (i := 1077) (by decide +kernel)⟩
theorem lw_p41 : lw_okq (⟨"LampValleyModel", "readNewLamp", "(I)V"⟩, 48) := ⟨⟨by decide +kernel, by decide +kernel⟩, List.mem_of_getElem? (i := 864) (by decide +kernel), List.mem_of_getElem? (i := 1080) (by decide +kernel), List.mem_of_getElem? (i := 1081) (by decide +kernel)⟩
theorem lw_p42 : lw_okq (⟨"LampValleyModel", "readNumber", "(II)I"⟩, 48) := ⟨⟨by decide +kernel, by decide +kernel⟩, List.mem_of_getElem? (i := 864) (by decide +kernel), List.mem_of_getElem? (i := 1084) (by decide +kernel), List.mem_of_getElem? (i := 1085) (by decide +kernel)⟩
theorem lw_p43 : lw_okq (⟨"LampValleyModel", "numberNow", "(II)I"⟩, 48) := ⟨⟨by decide +kernel, by decide +kernel⟩, List.mem_of_getElem? (i := 864) (by decide +kernel), List.mem_of_getElem? (i := 1088) (by decide +kernel), List.mem_of_getElem? (i := 1089) (by decide +kernel)⟩
theorem lw_p44 : lw_okq (⟨"LampValleyModel", "readLikes", "()V"⟩, 48) := ⟨⟨by decide +kernel, by decide +kernel⟩, List.mem_of_getElem? (i := 864) (by decide +kernel), List.mem_of_getElem? (i := 1093) (by decide +kernel), List.mem_of_getElem? (i := 1094) (by decide +kernel)⟩
theorem lw_p45 : lw_okq (⟨"LampValleyModel", "lampNow", "()I"⟩, 48) := ⟨⟨by decide +kernel, by decide +kernel⟩, List.mem_of_getElem? (i := 864) (by decide +kernel), List.mem_of_getElem? (i := 1097) (by decide +kernel), List.mem_of_getElem? (i := 1098) (by decide +kernel)⟩
theorem lw_p46 : lw_okq (⟨"LampValleyModel", "readFog", "()V"⟩, 48) := ⟨⟨by decide +kernel, by decide +kernel⟩, List.mem_of_getElem? (i := 864) (by decide +kernel), List.mem_of_getElem? (i := 1102) (by decide +kernel), List.mem_of_getElem? (i := 1103) (by decide +kernel)⟩
theorem lw_p47 : lw_okq (⟨"LampValleyModel", "readLamp", "()I"⟩, 48) := ⟨⟨by decide +kernel, by decide +kernel⟩, List.mem_of_getElem? (i := 864) (by decide +kernel), List.mem_of_getElem? (i := 1106) (by decide +kernel), List.mem_of_getElem? (i := 1107) (by decide +kernel)⟩
def lw_privs_3 : List (MethodName × Nat) := [(⟨"LampValley", "drawLikes", "(I)I"⟩, 15), (⟨"LampValleyModel", "fail", "(I)I"⟩, 48), (⟨"LampValleyModel", "stepOn", "()V"⟩, 48), (⟨"LampValleyModel", "byteAt", "(I)I"⟩, 48), (⟨"LampValleyModel", "readLine", "(I)I"⟩, 48), (⟨"LampValleyModel", "which", "([Ljava/lang/String;)I"⟩, 48), (⟨"LampValleyModel", "is", "(Ljava/lang/String;)Z"⟩, 48), (⟨"LampValleyModel", "wrong", "(I)V"⟩, 48), (⟨"LampValleyModel", "readBy", "(III)V"⟩, 48), (⟨"LampValleyModel", "readNewLamp", "(I)V"⟩, 48), (⟨"LampValleyModel", "readNumber", "(II)I"⟩, 48), (⟨"LampValleyModel", "numberNow", "(II)I"⟩, 48), (⟨"LampValleyModel", "readLikes", "()V"⟩, 48), (⟨"LampValleyModel", "lampNow", "()I"⟩, 48), (⟨"LampValleyModel", "readFog", "()V"⟩, 48), (⟨"LampValleyModel", "readLamp", "()I"⟩, 48)]
theorem lw_r3 : ∀ q ∈ lw_privs_3, lw_okq q := List.forall_mem_cons.mpr ⟨lw_p32, List.forall_mem_cons.mpr ⟨lw_p33, List.forall_mem_cons.mpr ⟨lw_p34, List.forall_mem_cons.mpr ⟨lw_p35, List.forall_mem_cons.mpr ⟨lw_p36, List.forall_mem_cons.mpr ⟨lw_p37, List.forall_mem_cons.mpr ⟨lw_p38, List.forall_mem_cons.mpr ⟨lw_p39, List.forall_mem_cons.mpr ⟨lw_p40, List.forall_mem_cons.mpr ⟨lw_p41, List.forall_mem_cons.mpr ⟨lw_p42, List.forall_mem_cons.mpr ⟨lw_p43, List.forall_mem_cons.mpr ⟨lw_p44, List.forall_mem_cons.mpr ⟨lw_p45, List.forall_mem_cons.mpr ⟨lw_p46, List.forall_mem_cons.mpr ⟨lw_p47, fun _ h => absurd h List.not_mem_nil⟩⟩⟩⟩⟩⟩⟩⟩⟩⟩⟩⟩⟩⟩⟩⟩
theorem lw_p48 : lw_okq (⟨"LampValleyModel", "take", "()V"⟩, 48) := ⟨⟨by decide +kernel, by decide +kernel⟩, List.mem_of_getElem? (i := 864) (by decide +kernel), List.mem_of_getElem? (i := 1110) (by decide +kernel), List.mem_of_getElem? (i := 1111) (by decide +kernel)⟩
theorem lw_p49 : lw_okq (⟨"LampValleyModel", "anew", "([I)V"⟩, 48) := ⟨⟨by decide +kernel, by decide +kernel⟩, List.mem_of_getElem? (i := 864) (by decide +kernel), List.mem_of_getElem? (i := 1117) (by decide +kernel), List.mem_of_getElem? (i := 1118) (by decide +kernel)⟩
theorem lw_p50 : lw_okq (⟨"LampValleyModel", "couples", "([I)I"⟩, 48) := ⟨⟨by decide +kernel, by decide +kernel⟩, List.mem_of_getElem? (i := 864) (by decide +kernel), List.mem_of_getElem? (i := 1132) (by decide +kernel), List.mem_of_getElem? (i := 1133) (by decide +kernel)⟩
theorem lw_p51 : lw_okq (⟨"LampValleyModel", "isLamp", "(I)Z"⟩, 48) := ⟨⟨by decide +kernel, by decide +kernel⟩, List.mem_of_getElem? (i := 864) (by decide +kernel), List.mem_of_getElem? (i := 1143) (by decide +kernel), List.mem_of_getElem? (i := 1144) (by decide +kernel)⟩
theorem lw_p52 : lw_okq (⟨"LampValleyModel", "outOf", "([I)I"⟩, 48) := ⟨⟨by decide +kernel, by decide +kernel⟩, List.mem_of_getElem? (i := 864) (by decide +kernel), List.mem_of_getElem? (i := 1161) (by decide +kernel), List.mem_of_getElem? (i := 1162) (by decide +kernel)⟩
theorem lw_p53 : lw_okq (⟨"LampValleyModel", "goNight", "([II[II)I"⟩, 48) := ⟨⟨by decide +kernel, by decide +kernel⟩, List.mem_of_getElem? (i := 864) (by decide +kernel), List.mem_of_getElem? (i := 1165) (by decide +kernel), List.mem_of_getElem? (i := 1166) (by decide +kernel)⟩
theorem lw_p54 : lw_okq (⟨"LampValleyModel", "moveOne", "([IIIII)V"⟩, 48) := ⟨⟨by decide +kernel, by decide +kernel⟩, List.mem_of_getElem? (i := 864) (by decide +kernel), List.mem_of_getElem? (i := 1172) (by decide +kernel), List.mem_of_getElem? (i := 1173) (by decide +kernel)⟩
theorem lw_p55 : lw_okq (⟨"LampValleyModel", "stays", "([III)Z"⟩, 48) := ⟨⟨by decide +kernel, by decide +kernel⟩, List.mem_of_getElem? (i := 864) (by decide +kernel), List.mem_of_getElem? (i := 1176) (by decide +kernel), List.mem_of_getElem? (i := 1177) (by decide +kernel)⟩
theorem lw_p56 : lw_okq (⟨"LampValleyModel", "towards", "([IIII)I"⟩, 48) := ⟨⟨by decide +kernel, by decide +kernel⟩, List.mem_of_getElem? (i := 864) (by decide +kernel), List.mem_of_getElem? (i := 1180) (by decide +kernel), List.mem_of_getElem? (i := 1181) (by decide +kernel)⟩
theorem lw_p57 : lw_okq (⟨"LampValleyModel", "hides", "(III)Z"⟩, 48) := ⟨⟨by decide +kernel, by decide +kernel⟩, List.mem_of_getElem? (i := 864) (by decide +kernel), List.mem_of_getElem? (i := 1184) (by decide +kernel), List.mem_of_getElem? (i := 1185) (by decide +kernel)⟩
theorem lw_p58 : lw_okq (⟨"LampValleyModel", "goNear", "([III)Z"⟩, 48) := ⟨⟨by decide +kernel, by decide +kernel⟩, List.mem_of_getElem? (i := 864) (by decide +kernel), List.mem_of_getElem? (i := 1188) (by decide +kernel), List.mem_of_getElem? (i := 1189) (by decide +kernel)⟩
theorem lw_p59 : lw_okq (⟨"LampValleyModel", "roundBy", "()I"⟩, 48) := ⟨⟨by decide +kernel, by decide +kernel⟩, List.mem_of_getElem? (i := 864) (by decide +kernel), List.mem_of_getElem? (i := 1214) (by decide +kernel), List.mem_of_getElem? (i := 1215) (by decide +kernel)⟩
theorem lw_p60 : lw_okq (⟨"LampValleyModel", "isAs", "(II)Z"⟩, 48) := ⟨⟨by decide +kernel, by decide +kernel⟩, List.mem_of_getElem? (i := 864) (by decide +kernel), List.mem_of_getElem? (i := 1218) (by decide +kernel), List.mem_of_getElem? (i := 1219) (by decide +kernel)⟩
theorem lw_p61 : lw_okq (⟨"LampValleyModel", "canGive", "(II)Z"⟩, 48) := ⟨⟨by decide +kernel, by decide +kernel⟩, List.mem_of_getElem? (i := 864) (by decide +kernel), List.mem_of_getElem? (i := 1230) (by decide +kernel), List.mem_of_getElem? (i := 1231) (by decide +kernel)⟩
theorem lw_p62 : lw_okq (⟨"LampValleyModel", "goOn", "()V"⟩, 48) := ⟨⟨by decide +kernel, by decide +kernel⟩, List.mem_of_getElem? (i := 864) (by decide +kernel), List.mem_of_getElem? (i := 1234) (by decide +kernel), List.mem_of_getElem? (i := 1235) (by decide +kernel)⟩
theorem lw_p63 : lw_okq (⟨"LampValleyModel", "weds", "(I)I"⟩, 48) := ⟨⟨by decide +kernel, by decide +kernel⟩, List.mem_of_getElem? (i := 864) (by decide +kernel), List.mem_of_getElem? (i := 1238) (by decide +kernel), List.mem_of_getElem? (i := 1239) (by decide +kernel)⟩
def lw_privs_4 : List (MethodName × Nat) := [(⟨"LampValleyModel", "take", "()V"⟩, 48), (⟨"LampValleyModel", "anew", "([I)V"⟩, 48), (⟨"LampValleyModel", "couples", "([I)I"⟩, 48), (⟨"LampValleyModel", "isLamp", "(I)Z"⟩, 48), (⟨"LampValleyModel", "outOf", "([I)I"⟩, 48), (⟨"LampValleyModel", "goNight", "([II[II)I"⟩, 48), (⟨"LampValleyModel", "moveOne", "([IIIII)V"⟩, 48), (⟨"LampValleyModel", "stays", "([III)Z"⟩, 48), (⟨"LampValleyModel", "towards", "([IIII)I"⟩, 48), (⟨"LampValleyModel", "hides", "(III)Z"⟩, 48), (⟨"LampValleyModel", "goNear", "([III)Z"⟩, 48), (⟨"LampValleyModel", "roundBy", "()I"⟩, 48), (⟨"LampValleyModel", "isAs", "(II)Z"⟩, 48), (⟨"LampValleyModel", "canGive", "(II)Z"⟩, 48), (⟨"LampValleyModel", "goOn", "()V"⟩, 48), (⟨"LampValleyModel", "weds", "(I)I"⟩, 48)]
theorem lw_r4 : ∀ q ∈ lw_privs_4, lw_okq q := List.forall_mem_cons.mpr ⟨lw_p48, List.forall_mem_cons.mpr ⟨lw_p49, List.forall_mem_cons.mpr ⟨lw_p50, List.forall_mem_cons.mpr ⟨lw_p51, List.forall_mem_cons.mpr ⟨lw_p52, List.forall_mem_cons.mpr ⟨lw_p53, List.forall_mem_cons.mpr ⟨lw_p54, List.forall_mem_cons.mpr ⟨lw_p55, List.forall_mem_cons.mpr ⟨lw_p56, List.forall_mem_cons.mpr ⟨lw_p57, List.forall_mem_cons.mpr ⟨lw_p58, List.forall_mem_cons.mpr ⟨lw_p59, List.forall_mem_cons.mpr ⟨lw_p60, List.forall_mem_cons.mpr ⟨lw_p61, List.forall_mem_cons.mpr ⟨lw_p62, List.forall_mem_cons.mpr ⟨lw_p63, fun _ h => absurd h List.not_mem_nil⟩⟩⟩⟩⟩⟩⟩⟩⟩⟩⟩⟩⟩⟩⟩⟩
theorem lw_p64 : lw_okq (⟨"LampValleyModel", "isRow", "(I)Z"⟩, 48) := ⟨⟨by decide +kernel, by decide +kernel⟩, List.mem_of_getElem? (i := 864) (by decide +kernel), List.mem_of_getElem? (i := 1249) (by decide +kernel), List.mem_of_getElem? (i := 1250) (by decide +kernel)⟩
theorem lw_p65 : lw_okq (⟨"LampValleyModel", "tellRow", "(I)V"⟩, 48) := ⟨⟨by decide +kernel, by decide +kernel⟩, List.mem_of_getElem? (i := 864) (by decide +kernel), List.mem_of_getElem? (i := 1253) (by decide +kernel), List.mem_of_getElem? (i := 1254) (by decide +kernel)⟩
theorem lw_p66 : lw_okq (⟨"LampValleyModel", "rests", "(I)Z"⟩, 48) := ⟨⟨by decide +kernel, by decide +kernel⟩, List.mem_of_getElem? (i := 864) (by decide +kernel), List.mem_of_getElem? (i := 1257) (by decide +kernel), List.mem_of_getElem? (i := 1258) (by decide +kernel)⟩
theorem lw_p67 : lw_okq (⟨"LampValleyModel", "byTens", "(I)I"⟩, 48) := ⟨⟨by decide +kernel, by decide +kernel⟩, List.mem_of_getElem? (i := 864) (by decide +kernel), List.mem_of_getElem? (i := 1261) (by decide +kernel), List.mem_of_getElem? (i := 1262) (by decide +kernel)⟩
theorem lw_p68 : lw_okq (⟨"LampValleyModel", "mayOf", "(I)I"⟩, 48) := ⟨⟨by decide +kernel, by decide +kernel⟩, List.mem_of_getElem? (i := 864) (by decide +kernel), List.mem_of_getElem? (i := 1269) (by decide +kernel), List.mem_of_getElem? (i := 1270) (by decide +kernel)⟩
theorem lw_p69 : lw_okq (⟨"LampValleyModel", "fitsBook", "(II)Z"⟩, 48) := ⟨⟨by decide +kernel, by decide +kernel⟩, List.mem_of_getElem? (i := 864) (by decide +kernel), List.mem_of_getElem? (i := 1273) (by decide +kernel), List.mem_of_getElem? (i := 1274) (by decide +kernel)⟩
theorem lw_p70 : lw_okq (⟨"LampValleyModel", "movesTo", "([IIII[II)Z"⟩, 48) := ⟨⟨by decide +kernel, by decide +kernel⟩, List.mem_of_getElem? (i := 864) (by decide +kernel), List.mem_of_getElem? (i := 1277) (by decide +kernel), List.mem_of_getElem? (i := 1278) (by decide +kernel)⟩
theorem lw_p71 : lw_okq (⟨"LampValleyModel", "leftBy", "(III)I"⟩, 48) := ⟨⟨by decide +kernel, by decide +kernel⟩, List.mem_of_getElem? (i := 864) (by decide +kernel), List.mem_of_getElem? (i := 1285) (by decide +kernel), List.mem_of_getElem? (i := 1286) (by decide +kernel)⟩
theorem lw_p72 : lw_okq (⟨"LampValleyModel", "drawLiked", "()V"⟩, 48) := ⟨⟨by decide +kernel, by decide +kernel⟩, List.mem_of_getElem? (i := 864) (by decide +kernel), List.mem_of_getElem? (i := 1297) (by decide +kernel), List.mem_of_getElem? (i := 1298) (by decide +kernel)⟩
theorem lw_p73 : lw_okq (⟨"LampValleyModel", "other", "(II)I"⟩, 48) := ⟨⟨by decide +kernel, by decide +kernel⟩, List.mem_of_getElem? (i := 864) (by decide +kernel), List.mem_of_getElem? (i := 1301) (by decide +kernel), List.mem_of_getElem? (i := 1302) (by decide +kernel)⟩
def lw_privs_5 : List (MethodName × Nat) := [(⟨"LampValleyModel", "isRow", "(I)Z"⟩, 48), (⟨"LampValleyModel", "tellRow", "(I)V"⟩, 48), (⟨"LampValleyModel", "rests", "(I)Z"⟩, 48), (⟨"LampValleyModel", "byTens", "(I)I"⟩, 48), (⟨"LampValleyModel", "mayOf", "(I)I"⟩, 48), (⟨"LampValleyModel", "fitsBook", "(II)Z"⟩, 48), (⟨"LampValleyModel", "movesTo", "([IIII[II)Z"⟩, 48), (⟨"LampValleyModel", "leftBy", "(III)I"⟩, 48), (⟨"LampValleyModel", "drawLiked", "()V"⟩, 48), (⟨"LampValleyModel", "other", "(II)I"⟩, 48)]
theorem lw_r5 : ∀ q ∈ lw_privs_5, lw_okq q := List.forall_mem_cons.mpr ⟨lw_p64, List.forall_mem_cons.mpr ⟨lw_p65, List.forall_mem_cons.mpr ⟨lw_p66, List.forall_mem_cons.mpr ⟨lw_p67, List.forall_mem_cons.mpr ⟨lw_p68, List.forall_mem_cons.mpr ⟨lw_p69, List.forall_mem_cons.mpr ⟨lw_p70, List.forall_mem_cons.mpr ⟨lw_p71, List.forall_mem_cons.mpr ⟨lw_p72, List.forall_mem_cons.mpr ⟨lw_p73, fun _ h => absurd h List.not_mem_nil⟩⟩⟩⟩⟩⟩⟩⟩⟩⟩
def lw_privs : List (MethodName × Nat) := lw_privs_1 ++ (lw_privs_2 ++ (lw_privs_3 ++ (lw_privs_4 ++ (lw_privs_5))))
def lw_tbl : List Cond := k2_sels lw_privs ++ tables_1
theorem lw_privs_ok : ∀ q ∈ lw_privs, lw_okq q := by
  show ∀ q ∈ lw_privs_1 ++ (lw_privs_2 ++ (lw_privs_3 ++ (lw_privs_4 ++ (lw_privs_5)))), lw_okq q
  exact List.forall_mem_append.mpr ⟨lw_r1, List.forall_mem_append.mpr ⟨lw_r2, List.forall_mem_append.mpr ⟨lw_r3, List.forall_mem_append.mpr ⟨lw_r4, lw_r5⟩⟩⟩⟩
end
section
/-! ===== BEGIN words of one list among another's, by their places ===== -/
theorem goodIn_r {big : List Cond} (ws : List Cond) (ps : List Nat) (hp : ws = ps.filterMap (fun i => big[i]?)) (h : ws.all goodWord = true) : GoodIn big ws := by
  intro w hw
  have h1 := List.all_eq_true.mp h w hw
  rw [hp] at hw
  obtain ⟨i, -, hi⟩ := List.mem_filterMap.mp hw
  have hm : w ∈ big := by first | exact List.mem_of_getElem? hi | exact List.getElem?_mem hi
  exact ⟨hm, good_of_word h1⟩
theorem goodIn_app {big a b : List Cond} (ha : GoodIn big a) (hb : GoodIn big b) : GoodIn big (a ++ b) := fun w h => (List.mem_append.mp h).elim (ha w) (hb w)
theorem goodIn_ca {big a b : List Cond} {c : Cond} (ha : GoodIn big (c :: a)) (hb : GoodIn big b) : GoodIn big (c :: (a ++ b)) := fun w h => (List.mem_cons.mp h).elim (fun e => ha w (List.mem_cons.mpr (Or.inl e))) (fun h => (List.mem_append.mp h).elim (fun h => ha w (List.mem_cons.mpr (Or.inr h))) (hb w))
theorem goodIn_sub {big ws : List Cond} (hm : ∀ w ∈ ws, w ∈ big) (h : ws.all goodWord = true) : GoodIn big ws := fun w hw => ⟨hm w hw, good_of_word (List.all_eq_true.mp h w hw)⟩
/-! ===== END ===== -/

/-! ===== BEGIN exceptions that leave a method, and their catching by the caller (launches without stack traces) ===== -/
section VXA
/-! The laws vx_back, vx_callV, vx_callS, vx_callSW, vx_throw0, vx_throwS follow proofs of the library, with one case more: JvmDerived/Free/Laws.lean (Back.of_free), Shelf42/LK1.lean (callV, callS), Shelf/KitTraced.lean (throwNew0V, throwNewS). -/
/-- where a method has thrown q: the class by its name, the cell, what was written, the world -/
def vx_T (XC : String → State → State → Prop) (st : State) (q : Addr) (t : State) (mc ms : Nat) (free : Addr → Prop) : Prop :=
  ∃ (E : String) (ce : Cell) (L : List Loc), XC E st t ∧ t.heap[q]? = some ce ∧ ce.vm = .none ∧ st.vm.findClass E = some ce.cls ∧ st.WarmedH t.vm ∧ st.sameButNew ({ t with vm := st.vm } : State) L mc ms ∧ ∀ z ∈ L, free z.base
def vx_Q (Qc : Array Value → State → Outcome → State → Prop) (XC : String → State → State → Prop) (mc ms : Nat) (free : Addr → Prop) : Array Value → State → Outcome → State → Prop := fun a st o t =>
  (Qc a st o t ∧ ∃ L, FrameEnd st o t L mc ms ∧ ∀ q ∈ L, free q.base) ∨ ∃ q, o = .threw q ∧ vx_T XC st q t mc ms free
/-- a callee that returns or throws -/
def vx_Met (l : Launch) (y : MethodName) (ws : List Cond) (rm : Room) (Pc : Array Value → State → Prop) (Qc : Array Value → State → Outcome → State → Prop) (XC : String → State → State → Prop) (mc ms : Nat) (free : Addr → Prop) : Prop :=
  MetFree l y (headSpec ws rm) Pc (fun _ _ _ _ _ => True) (vx_Q Qc XC mc ms free)
def vx_Post (XC : String → State → State → Prop) (mc ms : Nat) (free : Addr → Prop) : Pt → Array Value → Addr → Pt → Prop := fun A a q B =>
  ∃ (g : JFrame) (mk : MethodId) (t : State) (L : List Loc) (E : String) (ce : Cell), B.U.heap = t.heap ∧ B.U.vm = t.vm ∧ XC E (A.U.calling g mk a) t ∧ t.heap[q]? = some ce ∧ ce.vm = .none ∧ A.U.vm.findClass E = some ce.cls ∧ B.locs = A.locs ++ L ∧ (∀ z ∈ L, free z.base) ∧ B.cells = A.cells + mc ∧ B.slots = A.slots + ms
def vx_Back (l : Launch) (R : Room) (p : Program) (e : Env) (below : List Frame) (s : State) (sargs : Array Value) (y : MethodName) (len W9 : Nat)
    (Pre : Pt → Array Value → Prop) (Post : Pt → Array Value → Option Value → Pt → Prop) (PostX : Pt → Array Value → Addr → Pt → Prop) : Prop :=
  ∀ (m : MethodId) (meth : Method) (c : Code) (A : Pt) (g : JFrame) (ig : Instr) (mk : MethodId) (a : Array Value),
    Stand p l e R s m sargs below meth c A.U A.locs A.cells A.slots → g.method = m → g.locals.size = c.maxLocals → decode c.code g.pc = .ok (ig, len) →
    2 * g.monitorRoom + (g.stack.map fun v => v.category).sum ≤ W9 → A.U.methodNamed? y = some mk → Pre A a →
    (∃ (v : Option Value) (B : Pt), Stand p l e R s m sargs below meth c B.U B.locs B.cells B.slots ∧ Post A a v B ∧
      Steps p.tables e below (doInvoke e (A.U.setTop g) [] mk a).1 (B.U.setTop { g with pc := g.pc + len, stack := v.toList ++ g.stack })) ∨
    (∃ (q : Addr) (B : Pt), Stand p l e R s m sargs below meth c B.U B.locs B.cells B.slots ∧ PostX A a q B ∧
      Steps p.tables e below (doInvoke e (A.U.setTop g) [] mk a).1 ((B.U.setTop g).pushFrame (.throwing q)))
section Payer
variable {l : Launch} {R : Room} {p : Program} {e : Env} {below : List Frame} {s : State} {sargs : Array Value} {y : MethodName} {len W9 : Nat}
theorem vx_back {ws : List Cond} {rm : Room} {Pc : Array Value → State → Prop} {Qc : Array Value → State → Outcome → State → Prop} {XC : String → State → State → Prop} {mc ms : Nat} {free : Addr → Prop} {bytes : ByteArray} {maxL : Nat} {ret : Option FieldType}
    (hM : vx_Met l y ws rm Pc Qc XC mc ms free) (hblind : FrameBlind Pc) (hrc : rm.cells = mc) (hrs : rm.slots = ms)
    (hframes : rm.frames + 1 ≤ R.frames) (hlocals : W9 + (maxL + 11) + rm.locals ≤ R.locals)
    (hws : ∀ w ∈ ws, ∀ a' U, s.WarmedH U.vm → w.before a' U = true) (hcode : Cond.code y bytes maxL ret ∈ ws) (hinit : ∀ a' U, s.WarmedH U.vm → (Cond.initialized y.cls).before a' U = true) :
    vx_Back l R p e below s sargs y len W9 (PreOf R mc ms Pc) (PostOf Qc mc ms free) (vx_Post XC mc ms free) := by
  intro m meth c A g ig mk a X hg hsize hdg hW hn hp
  have h1 : (headSpec ws rm).pre.before a A.U = true := atoms_intro fun w hw => hws w hw _ _ X.warmed
  have h2 : (Cond.code y bytes maxL ret).before a A.U = true := hws _ hcode _ _ X.warmed
  have h3 : (Cond.initialized y.cls).before a A.U = true := hinit _ _ X.warmed
  have h4 : A.cells + (headSpec ws rm).room.cells ≤ R.cells := by rw [show (headSpec ws rm).room.cells = mc from hrc]; exact hp.1
  have h5 : A.slots + (headSpec ws rm).room.slots ≤ R.slots := by rw [show (headSpec ws rm).room.slots = ms from hrs]; exact hp.2.1
  have hPc : Pc a (A.U.calling g mk a) := hblind _ _ _ _ hp.2.2
  obtain ⟨U, Ls, c0, s0⟩ := A
  dsimp only [Pt.U, Pt.locs, Pt.cells, Pt.slots] at h1 h2 h3 h4 h5 X hn hPc ⊢
  obtain ⟨methY, cY, hmY, hcY, -, hlY, -, -, -, -⟩ := Cond.code_spec hn h2
  obtain ⟨kY, hkY, -⟩ := className_of_methodNamed hn
  have hinitY : kY.init = .initialized := Cond.initialized_spec (findClass_of_methodNamed hn) hkY h3
  have h : At U g.method c below := by rw [hg]; exact X.here
  have hlocals9 : W9 + (maxL + 11) + (headSpec ws rm).room.locals ≤ R.locals := hlocals
  have happ : (headSpec ws rm).appliesLoose y e.platform (U.calling g mk a) = true :=
    Spec.appliesLoose_calling (g := g) h hdg hn hkY hinitY
      (X.room_calling (g := g) (R' := (headSpec ws rm).room) hsize hmY hcY hframes (by rw [hlY]; omega) h4 h5) h1
  obtain ⟨mid, hmid⟩ := h.above
  have hfr : (U.setTop g).frames = (.java g :: mid) ++ below := by rw [State.frames_setTop' g h.top, hmid]; rfl
  obtain ⟨o, s₂, hsteps, -, hend, hq⟩ := Steps.callFree hM p X.admits X.cas X.clock (acts := []) hfr happ hPc trivial
  have hq' : vx_Q Qc XC mc ms free a (U.calling g mk a) o s₂ := hq
  rw [State.frames_setTop' g h.top] at hend
  obtain ⟨g₀, hg0⟩ := Option.isSome_iff_exists.mp h.top
  obtain ⟨r, hr⟩ := State.topJava?_eq_some.mp hg0
  have hr' : (({ U with heap := s₂.heap, slotsUsed := s₂.slotsUsed } : State).setVm s₂.vm).frames = .java g₀ :: r := hr
  rcases hq' with ⟨hqc, L, hfe, hL⟩ | ⟨q, rfl, E, ce, L, hx, hce, hcv, hcl, hW₂, hsm, hL⟩
  · obtain ⟨⟨v, rfl⟩, hW₂, e2, q2, q3, q4, q5, q6⟩ := id hfe
    have e3 : s₂ = ({ (U.calling g mk a).setFrames s₂.frames with heap := s₂.heap, slotsUsed := s₂.slotsUsed } : State).setVm s₂.vm := by
      have : s₂ = ({ s₂ with vm := (U.calling g mk a).vm } : State).setVm s₂.vm := rfl
      rw [e2] at this
      exact this
    obtain ⟨c₂, i₂, len₂, hc₂, hd₂, hf₂⟩ := hend
    have hW' : U.WarmedH s₂.vm := hW₂
    have hcc : c₂ = c := by
      have h1 : s₂.code? g.method = U.code? g.method := by
        rw [State.code?_eq, State.code?_eq, hW'.alike.method?]
      exact Option.some.inj (hc₂.symm.trans (h1.trans h.code))
    subst hcc
    have hlen : len₂ = len := by rw [hdg] at hd₂; cases hd₂; rfl
    subst hlen
    have hs₂ : s₂ = (({ U with heap := s₂.heap, slotsUsed := s₂.slotsUsed } : State).setVm s₂.vm).setTop { g with pc := g.pc + len₂, stack := v.toList ++ g.stack } := by
      refine e3.trans ?_
      rw [hf₂, State.calling_eq h.top, State.setFrames_setFrames, State.setTop_of_frames _ hr', hr]
      rfl
    have hsame : U.sameButNew ({ U with heap := s₂.heap, slotsUsed := s₂.slotsUsed } : State) L mc ms := by
      refine ⟨?_, q2, q3, q4, q5, q6⟩
      obtain ⟨t, ht, -⟩ := State.frames_cons hr
      show ({ U with heap := s₂.heap, slotsUsed := s₂.slotsUsed } : State) = { U.setFrames U.frames with heap := s₂.heap, slotsUsed := s₂.slotsUsed }
      rw [State.setFrames_self ht]
    subst hg
    refine Or.inl ⟨v, ⟨(({ U with heap := s₂.heap, slotsUsed := s₂.slotsUsed } : State).setVm s₂.vm), Ls ++ L, c0 + mc, s0 + ms⟩,
      ⟨X.admits, X.cas, X.clock, X.frames, X.room, X.hears, X.method, X.code, (X.here.setHeapUsed s₂.heap s₂.slotsUsed).setVm hW'.alike, X.tail, State.WarmedH.trans X.warmed hW', X.limits, X.bytes, X.same.trans (hsame.setVm s.vm)⟩,
      ⟨g, mk, s₂, L, rfl, rfl, hqc, rfl, hL, rfl, rfl⟩, ?_⟩
    show Steps p.tables e below _ ((({ U with heap := s₂.heap, slotsUsed := s₂.slotsUsed } : State).setVm s₂.vm).setTop { g with pc := g.pc + len₂, stack := v.toList ++ g.stack })
    rw [← hs₂]
    exact hsteps
  · obtain ⟨e2, q2, q3, q4, q5, q6⟩ := id hsm
    have e3 : s₂ = ({ (U.calling g mk a).setFrames s₂.frames with heap := s₂.heap, slotsUsed := s₂.slotsUsed } : State).setVm s₂.vm := by
      have : s₂ = ({ s₂ with vm := (U.calling g mk a).vm } : State).setVm s₂.vm := rfl
      rw [e2] at this
      exact this
    have hf₂ : s₂.frames = .throwing q :: .java g :: U.frames.tail := hend
    have hW' : U.WarmedH s₂.vm := hW₂
    have hs₂ : s₂ = ((({ U with heap := s₂.heap, slotsUsed := s₂.slotsUsed } : State).setVm s₂.vm).setTop g).pushFrame (.throwing q) := by
      refine e3.trans ?_
      rw [hf₂, State.calling_eq h.top, State.setFrames_setFrames, State.pushFrame, State.frames_setTop _ hr', State.setTop_of_frames _ hr', State.setFrames_setFrames, hr]
      rfl
    have hsame : U.sameButNew ({ U with heap := s₂.heap, slotsUsed := s₂.slotsUsed } : State) L mc ms := by
      refine ⟨?_, q2, q3, q4, q5, q6⟩
      obtain ⟨t, ht, -⟩ := State.frames_cons hr
      show ({ U with heap := s₂.heap, slotsUsed := s₂.slotsUsed } : State) = { U.setFrames U.frames with heap := s₂.heap, slotsUsed := s₂.slotsUsed }
      rw [State.setFrames_self ht]
    subst hg
    refine Or.inr ⟨q, ⟨(({ U with heap := s₂.heap, slotsUsed := s₂.slotsUsed } : State).setVm s₂.vm), Ls ++ L, c0 + mc, s0 + ms⟩,
      ⟨X.admits, X.cas, X.clock, X.frames, X.room, X.hears, X.method, X.code, (X.here.setHeapUsed s₂.heap s₂.slotsUsed).setVm hW'.alike, X.tail, State.WarmedH.trans X.warmed hW', X.limits, X.bytes, X.same.trans (hsame.setVm s.vm)⟩,
      ⟨g, mk, s₂, L, E, ce, rfl, rfl, hx, hce, hcv, hcl, rfl, hL, rfl, rfl⟩, ?_⟩
    show Steps p.tables e below _ (((({ U with heap := s₂.heap, slotsUsed := s₂.slotsUsed } : State).setVm s₂.vm).setTop g).pushFrame (.throwing q))
    rw [← hs₂]
    exact hsteps
end Payer
section Calls
variable {p : Program} {l : Launch} {e : Env} {R : Room} {s : State} {m : MethodId} {args : Array Value} {below : List Frame} {meth : Method} {c : Code} {T : State} {locs : List Loc} {cells slots : Nat}
theorem vx_callV (X : Stand p l e R s m args below meth c T locs cells slots) (hexec : p.tables.exec = Jvm.exec) {own C : String} {index : Nat} {y : MethodName} {bytes : ByteArray} {maxL : Nat} {ret : Option FieldType}
    (hown : s.vm.findClass own = some m.cls) (hlink : (Cond.methodLink own index y).before args s = true) (hinst : (Cond.instanceMethod y).before args s = true) (hsel : (Cond.selects C y y).before args s = true)
    (hcode : (Cond.code y bytes maxL ret).before args s = true) (hy : y.cls ≠ "java/lang/invoke/MethodHandle" ∧ y.cls ≠ "java/lang/invoke/VarHandle")
    {W9 : Nat} {Pre : Pt → Array Value → Prop} {Post : Pt → Array Value → Option Value → Pt → Prop} {PostX : Pt → Array Value → Addr → Pt → Prop} (hK : vx_Back l R p e below s args y 3 W9 Pre Post PostX)
    {b : Addr} {cellB : Cell} (hcell : T.heap[b]? = some cellB) (hobj : cellB.vm.isStatics = false) (hcls : s.vm.findClass C = some cellB.cls)
    {g : JFrame} (hg : g.method = m) (hsize : g.locals.size = c.maxLocals) {argsL rest : List Value} (hlen : ∀ sig, parseMethodDescriptor y.desc = some sig → argsL.length = sig.parameters.length)
    (hstack : g.stack = argsL.reverse ++ .ref b :: rest) (hW : 2 * g.monitorRoom + (rest.map fun v => v.category).sum ≤ W9) (hdg : decode c.code g.pc = .ok (.invokevirtual index, 3))
    (hpre : ∀ vm₁, s.WarmedH vm₁ → Pre ⟨T.setVm vm₁, locs, cells, slots⟩ (Value.ref b :: argsL).toArray) :
    (∃ (v : Option Value) (vm₁ : Vm) (B : Pt), s.WarmedH vm₁ ∧ Stand p l e R s m args below meth c B.U B.locs B.cells B.slots ∧ Post ⟨T.setVm vm₁, locs, cells, slots⟩ (Value.ref b :: argsL).toArray v B ∧
      ∀ target, Steps p.tables e below (B.U.setTop { g with pc := g.pc + 3, stack := v.toList ++ rest }) target → Steps p.tables e below (T.setTop g) target) ∨
    (∃ (q : Addr) (vm₁ : Vm) (B : Pt), s.WarmedH vm₁ ∧ Stand p l e R s m args below meth c B.U B.locs B.cells B.slots ∧ PostX ⟨T.setVm vm₁, locs, cells, slots⟩ (Value.ref b :: argsL).toArray q B ∧
      Steps p.tables e below (T.setTop g) ((B.U.setTop { g with stack := rest }).pushFrame (.throwing q))) := by
  obtain ⟨mk, methM, hnamed, hmethM, hstM, habM⟩ := Cond.instanceMethod_spec hinst
  obtain ⟨methM', cM, hmethM', -, -, -, -, -, -, hsigM⟩ := Cond.code_spec hnamed hcode
  cases hmethM.symm.trans hmethM'
  obtain ⟨c2, r2, m2, q1, q2, q3, q4, kP, hkP, hkPi⟩ := Cond.selects_spec hsel
  cases hcls.symm.trans q1
  cases (State.methodFound?_of_named hnamed hy).symm.trans q2
  cases hnamed.symm.trans q3
  have hselP : selectMethod e.platform s.vm cellB.cls mk = .method mk := by rw [Launch.admits_selectMethod X.admits]; exact q4
  obtain ⟨vm₁, X₁, hstep₁⟩ := X.invokevirtual hexec hown hlink hnamed hmethM hstM hkP hkPi hy (a := b) (cell := cellB) hcell
    (fun z h => by rw [h] at hobj; cases hobj) hselP hmethM habM hkP hkPi (g := g) hg (argsL := argsL) (rest := rest) (hlen _ hsigM) hstack hdg
  rcases hK m meth c ⟨T.setVm vm₁, locs, cells, slots⟩ { g with stack := rest } (.invokevirtual index) mk (Value.ref b :: argsL).toArray X₁ hg hsize hdg hW (X₁.named hnamed) (hpre vm₁ X₁.warmed) with ⟨v, B, X', hpost, hsteps⟩ | ⟨q, B, X', hpost, hsteps⟩
  · exact Or.inl ⟨v, vm₁, B, X₁.warmed, X', hpost, fun target h => hstep₁ _ fun acts => by rw [doInvoke_state]; exact hsteps.trans h⟩
  · exact Or.inr ⟨q, vm₁, B, X₁.warmed, X', hpost, hstep₁ _ fun acts => by rw [doInvoke_state]; exact hsteps⟩
theorem vx_callS (X : Stand p l e R s m args below meth c T locs cells slots) (hexec : p.tables.exec = Jvm.exec) {own : String} {index : Nat} {y : MethodName} {bytes : ByteArray} {maxL : Nat} {ret : Option FieldType}
    (hown : s.vm.findClass own = some m.cls) (hlink : (Cond.methodLink own index y).before args s = true) (hstat : (Cond.static y).before args s = true) (hinit : (Cond.initialized y.cls).before args s = true)
    (hcode : (Cond.code y bytes maxL ret).before args s = true) (hy : y.cls ≠ "java/lang/invoke/MethodHandle" ∧ y.cls ≠ "java/lang/invoke/VarHandle")
    {W9 : Nat} {Pre : Pt → Array Value → Prop} {Post : Pt → Array Value → Option Value → Pt → Prop} {PostX : Pt → Array Value → Addr → Pt → Prop} (hK : vx_Back l R p e below s args y 3 W9 Pre Post PostX)
    {g : JFrame} (hg : g.method = m) (hsize : g.locals.size = c.maxLocals) {argsL rest : List Value} (hlen : ∀ sig, parseMethodDescriptor y.desc = some sig → argsL.length = sig.parameters.length)
    (hstack : g.stack = argsL.reverse ++ rest) (hW : 2 * g.monitorRoom + (rest.map fun v => v.category).sum ≤ W9) (hdg : decode c.code g.pc = .ok (.invokestatic index, 3))
    (hpre : ∀ vm₁, s.WarmedH vm₁ → Pre ⟨T.setVm vm₁, locs, cells, slots⟩ argsL.toArray) :
    (∃ (v : Option Value) (vm₁ : Vm) (B : Pt), s.WarmedH vm₁ ∧ Stand p l e R s m args below meth c B.U B.locs B.cells B.slots ∧ Post ⟨T.setVm vm₁, locs, cells, slots⟩ argsL.toArray v B ∧
      ∀ target, Steps p.tables e below (B.U.setTop { g with pc := g.pc + 3, stack := v.toList ++ rest }) target → Steps p.tables e below (T.setTop g) target) ∨
    (∃ (q : Addr) (vm₁ : Vm) (B : Pt), s.WarmedH vm₁ ∧ Stand p l e R s m args below meth c B.U B.locs B.cells B.slots ∧ PostX ⟨T.setVm vm₁, locs, cells, slots⟩ argsL.toArray q B ∧
      Steps p.tables e below (T.setTop g) ((B.U.setTop { g with stack := rest }).pushFrame (.throwing q))) := by
  obtain ⟨mk, hnamed⟩ := Cond.code_named hcode
  obtain ⟨methM, cM, hmethM, -, -, -, -, -, -, hsigM⟩ := Cond.code_spec hnamed hcode
  have hstatic : methM.isStatic = true := Cond.static_spec hnamed hmethM hstat
  obtain ⟨kP, hkP, -⟩ := className_of_methodNamed hnamed
  have hinitP : kP.init = .initialized := Cond.initialized_spec (findClass_of_methodNamed hnamed) hkP hinit
  obtain ⟨vm₁, X₁, hstep₁⟩ := X.invokestatic hexec hown hlink hnamed hmethM hstatic hkP hinitP hy (g := g) hg (argsL := argsL) (rest := rest) (hlen _ hsigM) hstack hdg
  rcases hK m meth c ⟨T.setVm vm₁, locs, cells, slots⟩ { g with stack := rest } (.invokestatic index) mk argsL.toArray X₁ hg hsize hdg hW (X₁.named hnamed) (hpre vm₁ X₁.warmed) with ⟨v, B, X', hpost, hsteps⟩ | ⟨q, B, X', hpost, hsteps⟩
  · exact Or.inl ⟨v, vm₁, B, X₁.warmed, X', hpost, fun target h => hstep₁ _ fun acts => by rw [doInvoke_state]; exact hsteps.trans h⟩
  · exact Or.inr ⟨q, vm₁, B, X₁.warmed, X', hpost, hstep₁ _ fun acts => by rw [doInvoke_state]; exact hsteps⟩
end Calls
theorem vx_cls {s : State} {T : State} {vm₁ : Vm} {E : String} {k : ClassId} (hW : s.WarmedH vm₁) (h : (T.setVm vm₁).vm.findClass E = some k) : s.vm.findClass E = some k := by
  have h1 : vm₁.findClass E = some k := h
  rw [hW.alike.findClass] at h1
  exact h1
/-- the method's frame g, with q thrown over it -/
def vx_W (p : Program) (l : Launch) (e : Env) (R : Room) (s : State) (m : MethodId) (args : Array Value) (below : List Frame) (meth : Method) (c : Code) (H : Heap) (locs : List Loc) (cells slots : Nat) (Q : State → Prop) (g : JFrame) (q : Addr) : Prop :=
  ∀ T : State, T.heap = H → Stand p l e R s m args below meth c T locs cells slots → ∃ t, Steps p.tables e below ((T.setTop g).pushFrame (.throwing q)) t ∧ Q t
def vx_Run (p : Program) (l : Launch) (e : Env) (R : Room) (s : State) (m : MethodId) (args : Array Value) (below : List Frame) (meth : Method) (c : Code) (H : Heap) (locs : List Loc) (cells slots mc ms : Nat) (g : JFrame) (rest : List Value) (Qa : State → Outcome → State → Prop) (XC : String → State → State → Prop) (free : Addr → Prop) : Prop :=
  ∀ T : State, T.heap = H → Stand p l e R s m args below meth c T locs cells slots →
    (∃ (v : Option Value) (st₀ t T' : State) (L : List Loc), st₀.heap = H ∧ Stand p l e R s m args below meth c T' (locs ++ L) (cells + mc) (slots + ms) ∧ (∀ q ∈ L, free q.base) ∧ T'.heap = t.heap ∧ T'.vm = t.vm ∧ Qa st₀ (.returned v) t ∧
      Goes p e below T g T' { g with pc := g.pc + 3, stack := v.toList ++ rest }) ∨
    (∃ (q : Addr) (st₀ t T' : State) (L : List Loc) (E : String) (ce : Cell), st₀.heap = H ∧ Stand p l e R s m args below meth c T' (locs ++ L) (cells + mc) (slots + ms) ∧ (∀ z ∈ L, free z.base) ∧ T'.heap = t.heap ∧ T'.vm = t.vm ∧ XC E st₀ t ∧ t.heap[q]? = some ce ∧ ce.vm = .none ∧ s.vm.findClass E = some ce.cls ∧
      Steps p.tables e below (T.setTop g) ((T'.setTop { g with stack := rest }).pushFrame (.throwing q)))
def vx_X {S : Type} (px : S → Prop) (B : String → S → State → Prop) (A : Nat → Prop) : String → State → State → Prop := fun E st t => ∃ u : S, px u ∧ B E u t ∧ va_F A st t
section Runs
variable {p : Program} {l : Launch} {e : Env} {R : Room} {s : State} {m : MethodId} {args : Array Value} {below : List Frame} {meth : Method} {c : Code} {H : Heap} {locs : List Loc} {cells slots : Nat}
variable {y : MethodName} {bytes cc : ByteArray} {maxL nL mc ms n index : Nat} {ret : Option FieldType} {ws : List Cond} {rm : Room} {Pc : Array Value → State → Prop} {Qc : Array Value → State → Outcome → State → Prop} {XC : String → State → State → Prop} {free : Addr → Prop} {Ts : List Cond} {own C : String} {b : Addr} {As rest : List Value} {g : JFrame}
theorem vx_callBack (cb : CallB R s args own index y bytes maxL ret ws rm mc ms n) (hM : vx_Met l y ws rm Pc Qc XC mc ms free) (hbl : FrameBlind Pc) : vx_Back l R p e below s args y 3 8 (PreOf R mc ms Pc) (PostOf Qc mc ms free) (vx_Post XC mc ms free) := by
  obtain ⟨hrc, hrs, hfr, hlo, hws, hcw, -, hini, -⟩ := cb
  exact vx_back (bytes := bytes) (maxL := maxL) (ret := ret) hM hbl hrc hrs hfr hlo hws hcw (fun a' U hW => word_at hW (Or.inl (by first | rfl | simp [Cond.onTables, Cond.keeps, Cond.steady])) hini)
theorem vx_runV (S : CallFix p m c cc nL s args Ts own) (hM : vx_Met l y ws rm Pc Qc XC mc ms free) (cw : CallW R s args own C index y bytes maxL ret ws rm mc ms n) (hp : PreV s H C b Pc As)
    (hg : g.method = m) (hn : As.length = n) (hsize : g.locals.size = nL) (hstack : g.stack = As.reverse ++ .ref b :: rest) (hW : 2 * g.monitorRoom + (rest.map fun v => v.category).sum ≤ 8) (hdg : decode cc g.pc = .ok (.invokevirtual index, 3)) (hf : cells + mc ≤ R.cells ∧ slots + ms ≤ R.slots) :
    vx_Run p l e R s m args below meth c H locs cells slots mc ms g rest (Qc (Value.ref b :: As).toArray) XC free := by
  have hK : vx_Back l R p e below s args y 3 8 (PreOf R mc ms Pc) (PostOf Qc mc ms free) (vx_Post XC mc ms free) := vx_callBack cw.1 hM hp.1
  obtain ⟨⟨-, -, -, -, -, -, hcode, -, hy, hlen, hl⟩, hin, hse⟩ := cw
  obtain ⟨hx, hb, hml, ho, -⟩ := S
  obtain ⟨-, ⟨cellB, hcB, hoB, hclB⟩, hPc⟩ := hp
  intro T hT X
  rcases vx_callV X hx (C := C) (bytes := bytes) (maxL := maxL) (ret := ret) ho hl hin hse hcode hy hK (by rw [hT]; exact hcB) hoB hclB hg (hsize.trans hml.symm) (argsL := As) (rest := rest) (fun sig h => hn.trans (hlen sig h)) hstack hW (by rw [hb]; exact hdg)
    (fun vm₁ hW₁ => ⟨hf.1, hf.2, hPc (T.setVm vm₁) hT hW₁⟩) with ⟨v, vm₁, ⟨U', l2, c2, s2⟩, hW₁, X', ⟨g', mk, t, L, e1, e2, hq, h1, hL, h2, h3⟩, st⟩ | ⟨q, vm₁, ⟨U', l2, c2, s2⟩, hW₁, X', ⟨g', mk, t, L, E, ce, e1, e2, hq, hce, hcv, hcl, h1, hL, h2, h3⟩, st⟩
  · dsimp only [Pt.U, Pt.locs, Pt.cells, Pt.slots] at X' e1 e2 h1 h2 h3 st
    subst h1; subst h2; subst h3
    exact Or.inl ⟨v, (T.setVm vm₁).calling g' mk (Value.ref b :: As).toArray, t, U', L, hT, X', hL, e1, e2, hq, st⟩
  · dsimp only [Pt.U, Pt.locs, Pt.cells, Pt.slots] at X' e1 e2 h1 h2 h3 st hcl
    subst h1; subst h2; subst h3
    exact Or.inr ⟨q, (T.setVm vm₁).calling g' mk (Value.ref b :: As).toArray, t, U', L, E, ce, hT, X', hL, e1, e2, hq, hce, hcv, vx_cls hW₁ hcl, st⟩
theorem vx_runS (S : CallFix p m c cc nL s args Ts own) (hM : vx_Met l y ws rm Pc Qc XC mc ms free) (cw : CallB R s args own index y bytes maxL ret ws rm mc ms n ∧ (Cond.static y).before args s = true) (hp : PreS s H Pc As)
    (hg : g.method = m) (hn : As.length = n) (hsize : g.locals.size = nL) (hstack : g.stack = As.reverse ++ rest) (hW : 2 * g.monitorRoom + (rest.map fun v => v.category).sum ≤ 8) (hdg : decode cc g.pc = .ok (.invokestatic index, 3)) (hf : cells + mc ≤ R.cells ∧ slots + ms ≤ R.slots) :
    vx_Run p l e R s m args below meth c H locs cells slots mc ms g rest (Qc As.toArray) XC free := by
  have hK : vx_Back l R p e below s args y 3 8 (PreOf R mc ms Pc) (PostOf Qc mc ms free) (vx_Post XC mc ms free) := vx_callBack cw.1 hM hp.1
  obtain ⟨⟨-, -, -, -, -, -, hcode, hini, hy, hlen, hl⟩, hstt⟩ := cw
  obtain ⟨hx, hb, hml, ho, -⟩ := S
  intro T hT X
  rcases vx_callS X hx (bytes := bytes) (maxL := maxL) (ret := ret) ho hl hstt hini hcode hy hK hg (hsize.trans hml.symm) (argsL := As) (rest := rest) (fun sig h => hn.trans (hlen sig h)) hstack hW (by rw [hb]; exact hdg)
    (fun vm₁ hW₁ => ⟨hf.1, hf.2, hp.2 (T.setVm vm₁) hT hW₁⟩) with ⟨v, vm₁, ⟨U', l2, c2, s2⟩, hW₁, X', ⟨g', mk, t, L, e1, e2, hq, h1, hL, h2, h3⟩, st⟩ | ⟨q, vm₁, ⟨U', l2, c2, s2⟩, hW₁, X', ⟨g', mk, t, L, E, ce, e1, e2, hq, hce, hcv, hcl, h1, hL, h2, h3⟩, st⟩
  · dsimp only [Pt.U, Pt.locs, Pt.cells, Pt.slots] at X' e1 e2 h1 h2 h3 st
    subst h1; subst h2; subst h3
    exact Or.inl ⟨v, (T.setVm vm₁).calling g' mk As.toArray, t, U', L, hT, X', hL, e1, e2, hq, st⟩
  · dsimp only [Pt.U, Pt.locs, Pt.cells, Pt.slots] at X' e1 e2 h1 h2 h3 st hcl
    subst h1; subst h2; subst h3
    exact Or.inr ⟨q, (T.setVm vm₁).calling g' mk As.toArray, t, U', L, E, ce, hT, X', hL, e1, e2, hq, hce, hcv, vx_cls hW₁ hcl, st⟩
end Runs
section Rows
variable {p : Program} {l : Launch} {e : Env} {R : Room} {s : State} {m : MethodId} {args : Array Value} {below : List Frame} {meth : Method} {c : Code} {H : Heap} {locs : List Loc} {cells slots : Nat} {Q : State → Prop}
variable {mc ms : Nat} {free : Addr → Prop} {A0 A1 : Nat → Prop} {H0 : Heap} {a : Array Value} {pc : Nat} {ls : Array Slot} {st0 rest : List Value}
theorem vx_keep {st₀ t T' : State} {L : List Loc} (h0 : st₀.heap = H) (e1 : T'.heap = t.heap) (hS : va_S A0 H0 H locs) (hA : ∀ q, q < H.size → A1 q → A0 q) (hf : ∀ q, free q → A0 q) (hL : ∀ q ∈ L, free q.base) (hF : va_F A1 st₀ t) :
    H.size ≤ T'.heap.size ∧ (∀ q : Nat, q < H.size → ¬ A1 q → T'.heap[q]? = H[q]?) ∧ va_S A0 H0 T'.heap (locs ++ L) := by
  obtain ⟨hz, hk⟩ := hF
  rw [h0] at hz hk
  exact ⟨by rw [e1]; exact hz, fun q h1 h2 => by rw [e1]; exact hk q h1 h2,
    ⟨Nat.le_trans hS.1 (by rw [e1]; exact hz), fun q h1 h2 => by rw [e1, hk q (Nat.lt_of_lt_of_le h1 hS.1) (fun z => h2 (hA q (Nat.lt_of_lt_of_le h1 hS.1) z))]; exact hS.2.1 q h1 h2, fun q hq => by
      rcases List.mem_append.mp hq with h | h
      · exact hS.2.2 q h
      · exact hf _ (hL q h)⟩⟩
theorem vx_calli {S SX : Type} {post : Int32 → S → Prop} {px : SX → Prop} {B : S → State → Prop} {BX : String → SX → State → Prop} {AX : Nat → Prop} (hr : vx_Run p l e R s m args below meth c H locs cells slots mc ms (F0 m pc ls st0) rest (va_Qi post B A1 a) (vx_X px BX AX) free) (hS : va_S A0 H0 H locs) (hA : ∀ q, q < H.size → A1 q → A0 q) (hf : ∀ q, free q → A0 q) (hAX : ∀ q, q < H.size → AX q → A0 q)
    (kx : ∀ (E : String) (ce : Cell) (q9 : Addr) (u : SX) (t : State) (H1 : Heap) (locs1 : List Loc), t.heap = H1 → s.vm.Alike t.vm → px u → BX E u t → H.size ≤ H1.size → (∀ q : Nat, q < H.size → ¬ AX q → H1[q]? = H[q]?) → va_S A0 H0 H1 locs1 → H1[q9]? = some ce → ce.vm = .none → s.vm.findClass E = some ce.cls → vx_W p l e R s m args below meth c H1 locs1 (cells + mc) (slots + ms) Q (F0 m pc ls rest) q9)
    (kk : ∀ (r : Int32) (u : S) (t : State) (H1 : Heap) (locs1 : List Loc), t.heap = H1 → s.vm.Alike t.vm → post r u → B u t → H.size ≤ H1.size → (∀ q : Nat, q < H.size → ¬ A1 q → H1[q]? = H[q]?) → va_S A0 H0 H1 locs1 → W p l e R s m args below meth c H1 locs1 (cells + mc) (slots + ms) Q (F0 m (pc + 3) ls (.int r :: rest))) : W p l e R s m args below meth c H locs cells slots Q (F0 m pc ls st0) := by
  intro T hT X
  rcases hr T hT X with ⟨v, st₀, t, T', L, h0, X', hL, e1, e2, ⟨⟨r, u, hv, hp, hb⟩, hF⟩, st⟩ | ⟨q, st₀, t, T', L, E, ce, h0, X', hL, e1, e2, ⟨u, hp, hb, hF⟩, hce, hcv, hcl, st⟩
  · cases hv
    obtain ⟨k1, k2, k3⟩ := vx_keep h0 e1 hS hA hf hL hF
    obtain ⟨t2, a1, b1⟩ := kk r u t T'.heap (locs ++ L) e1.symm (by rw [← e2]; exact X'.warmed.alike) hp hb k1 k2 k3 T' rfl X'
    exact ⟨t2, st t2 a1, b1⟩
  · obtain ⟨k1, k2, k3⟩ := vx_keep h0 e1 hS hAX hf hL hF
    obtain ⟨t2, a1, b1⟩ := kx E ce q u t T'.heap (locs ++ L) e1.symm (by rw [← e2]; exact X'.warmed.alike) hp hb k1 k2 k3 (by rw [e1]; exact hce) hcv hcl T' rfl X'
    exact ⟨t2, st.trans a1, b1⟩
theorem vx_calll {S SX : Type} {post : Int64 → S → Prop} {px : SX → Prop} {B : S → State → Prop} {BX : String → SX → State → Prop} {AX : Nat → Prop} (hr : vx_Run p l e R s m args below meth c H locs cells slots mc ms (F0 m pc ls st0) rest (va_Ql post B A1 a) (vx_X px BX AX) free) (hS : va_S A0 H0 H locs) (hA : ∀ q, q < H.size → A1 q → A0 q) (hf : ∀ q, free q → A0 q) (hAX : ∀ q, q < H.size → AX q → A0 q)
    (kx : ∀ (E : String) (ce : Cell) (q9 : Addr) (u : SX) (t : State) (H1 : Heap) (locs1 : List Loc), t.heap = H1 → s.vm.Alike t.vm → px u → BX E u t → H.size ≤ H1.size → (∀ q : Nat, q < H.size → ¬ AX q → H1[q]? = H[q]?) → va_S A0 H0 H1 locs1 → H1[q9]? = some ce → ce.vm = .none → s.vm.findClass E = some ce.cls → vx_W p l e R s m args below meth c H1 locs1 (cells + mc) (slots + ms) Q (F0 m pc ls rest) q9)
    (kk : ∀ (r : Int64) (u : S) (t : State) (H1 : Heap) (locs1 : List Loc), t.heap = H1 → s.vm.Alike t.vm → post r u → B u t → H.size ≤ H1.size → (∀ q : Nat, q < H.size → ¬ A1 q → H1[q]? = H[q]?) → va_S A0 H0 H1 locs1 → W p l e R s m args below meth c H1 locs1 (cells + mc) (slots + ms) Q (F0 m (pc + 3) ls (.long r :: rest))) : W p l e R s m args below meth c H locs cells slots Q (F0 m pc ls st0) := by
  intro T hT X
  rcases hr T hT X with ⟨v, st₀, t, T', L, h0, X', hL, e1, e2, ⟨⟨r, u, hv, hp, hb⟩, hF⟩, st⟩ | ⟨q, st₀, t, T', L, E, ce, h0, X', hL, e1, e2, ⟨u, hp, hb, hF⟩, hce, hcv, hcl, st⟩
  · cases hv
    obtain ⟨k1, k2, k3⟩ := vx_keep h0 e1 hS hA hf hL hF
    obtain ⟨t2, a1, b1⟩ := kk r u t T'.heap (locs ++ L) e1.symm (by rw [← e2]; exact X'.warmed.alike) hp hb k1 k2 k3 T' rfl X'
    exact ⟨t2, st t2 a1, b1⟩
  · obtain ⟨k1, k2, k3⟩ := vx_keep h0 e1 hS hAX hf hL hF
    obtain ⟨t2, a1, b1⟩ := kx E ce q u t T'.heap (locs ++ L) e1.symm (by rw [← e2]; exact X'.warmed.alike) hp hb k1 k2 k3 (by rw [e1]; exact hce) hcv hcl T' rfl X'
    exact ⟨t2, st.trans a1, b1⟩
theorem vx_callf {S SX : Type} {post : UInt32 → S → Prop} {px : SX → Prop} {B : S → State → Prop} {BX : String → SX → State → Prop} {AX : Nat → Prop} (hr : vx_Run p l e R s m args below meth c H locs cells slots mc ms (F0 m pc ls st0) rest (va_Qf post B A1 a) (vx_X px BX AX) free) (hS : va_S A0 H0 H locs) (hA : ∀ q, q < H.size → A1 q → A0 q) (hf : ∀ q, free q → A0 q) (hAX : ∀ q, q < H.size → AX q → A0 q)
    (kx : ∀ (E : String) (ce : Cell) (q9 : Addr) (u : SX) (t : State) (H1 : Heap) (locs1 : List Loc), t.heap = H1 → s.vm.Alike t.vm → px u → BX E u t → H.size ≤ H1.size → (∀ q : Nat, q < H.size → ¬ AX q → H1[q]? = H[q]?) → va_S A0 H0 H1 locs1 → H1[q9]? = some ce → ce.vm = .none → s.vm.findClass E = some ce.cls → vx_W p l e R s m args below meth c H1 locs1 (cells + mc) (slots + ms) Q (F0 m pc ls rest) q9)
    (kk : ∀ (r : UInt32) (u : S) (t : State) (H1 : Heap) (locs1 : List Loc), t.heap = H1 → s.vm.Alike t.vm → post r u → B u t → H.size ≤ H1.size → (∀ q : Nat, q < H.size → ¬ A1 q → H1[q]? = H[q]?) → va_S A0 H0 H1 locs1 → W p l e R s m args below meth c H1 locs1 (cells + mc) (slots + ms) Q (F0 m (pc + 3) ls (.float r :: rest))) : W p l e R s m args below meth c H locs cells slots Q (F0 m pc ls st0) := by
  intro T hT X
  rcases hr T hT X with ⟨v, st₀, t, T', L, h0, X', hL, e1, e2, ⟨⟨r, u, hv, hp, hb⟩, hF⟩, st⟩ | ⟨q, st₀, t, T', L, E, ce, h0, X', hL, e1, e2, ⟨u, hp, hb, hF⟩, hce, hcv, hcl, st⟩
  · cases hv
    obtain ⟨k1, k2, k3⟩ := vx_keep h0 e1 hS hA hf hL hF
    obtain ⟨t2, a1, b1⟩ := kk r u t T'.heap (locs ++ L) e1.symm (by rw [← e2]; exact X'.warmed.alike) hp hb k1 k2 k3 T' rfl X'
    exact ⟨t2, st t2 a1, b1⟩
  · obtain ⟨k1, k2, k3⟩ := vx_keep h0 e1 hS hAX hf hL hF
    obtain ⟨t2, a1, b1⟩ := kx E ce q u t T'.heap (locs ++ L) e1.symm (by rw [← e2]; exact X'.warmed.alike) hp hb k1 k2 k3 (by rw [e1]; exact hce) hcv hcl T' rfl X'
    exact ⟨t2, st.trans a1, b1⟩
theorem vx_calld {S SX : Type} {post : UInt64 → S → Prop} {px : SX → Prop} {B : S → State → Prop} {BX : String → SX → State → Prop} {AX : Nat → Prop} (hr : vx_Run p l e R s m args below meth c H locs cells slots mc ms (F0 m pc ls st0) rest (va_Qd post B A1 a) (vx_X px BX AX) free) (hS : va_S A0 H0 H locs) (hA : ∀ q, q < H.size → A1 q → A0 q) (hf : ∀ q, free q → A0 q) (hAX : ∀ q, q < H.size → AX q → A0 q)
    (kx : ∀ (E : String) (ce : Cell) (q9 : Addr) (u : SX) (t : State) (H1 : Heap) (locs1 : List Loc), t.heap = H1 → s.vm.Alike t.vm → px u → BX E u t → H.size ≤ H1.size → (∀ q : Nat, q < H.size → ¬ AX q → H1[q]? = H[q]?) → va_S A0 H0 H1 locs1 → H1[q9]? = some ce → ce.vm = .none → s.vm.findClass E = some ce.cls → vx_W p l e R s m args below meth c H1 locs1 (cells + mc) (slots + ms) Q (F0 m pc ls rest) q9)
    (kk : ∀ (r : UInt64) (u : S) (t : State) (H1 : Heap) (locs1 : List Loc), t.heap = H1 → s.vm.Alike t.vm → post r u → B u t → H.size ≤ H1.size → (∀ q : Nat, q < H.size → ¬ A1 q → H1[q]? = H[q]?) → va_S A0 H0 H1 locs1 → W p l e R s m args below meth c H1 locs1 (cells + mc) (slots + ms) Q (F0 m (pc + 3) ls (.double r :: rest))) : W p l e R s m args below meth c H locs cells slots Q (F0 m pc ls st0) := by
  intro T hT X
  rcases hr T hT X with ⟨v, st₀, t, T', L, h0, X', hL, e1, e2, ⟨⟨r, u, hv, hp, hb⟩, hF⟩, st⟩ | ⟨q, st₀, t, T', L, E, ce, h0, X', hL, e1, e2, ⟨u, hp, hb, hF⟩, hce, hcv, hcl, st⟩
  · cases hv
    obtain ⟨k1, k2, k3⟩ := vx_keep h0 e1 hS hA hf hL hF
    obtain ⟨t2, a1, b1⟩ := kk r u t T'.heap (locs ++ L) e1.symm (by rw [← e2]; exact X'.warmed.alike) hp hb k1 k2 k3 T' rfl X'
    exact ⟨t2, st t2 a1, b1⟩
  · obtain ⟨k1, k2, k3⟩ := vx_keep h0 e1 hS hAX hf hL hF
    obtain ⟨t2, a1, b1⟩ := kx E ce q u t T'.heap (locs ++ L) e1.symm (by rw [← e2]; exact X'.warmed.alike) hp hb k1 k2 k3 (by rw [e1]; exact hce) hcv hcl T' rfl X'
    exact ⟨t2, st.trans a1, b1⟩
theorem vx_callv {S SX : Type} {post : S → Prop} {px : SX → Prop} {B : S → State → Prop} {BX : String → SX → State → Prop} {AX : Nat → Prop} (hr : vx_Run p l e R s m args below meth c H locs cells slots mc ms (F0 m pc ls st0) rest (va_Qv post B A1 a) (vx_X px BX AX) free) (hS : va_S A0 H0 H locs) (hA : ∀ q, q < H.size → A1 q → A0 q) (hf : ∀ q, free q → A0 q) (hAX : ∀ q, q < H.size → AX q → A0 q)
    (kx : ∀ (E : String) (ce : Cell) (q9 : Addr) (u : SX) (t : State) (H1 : Heap) (locs1 : List Loc), t.heap = H1 → s.vm.Alike t.vm → px u → BX E u t → H.size ≤ H1.size → (∀ q : Nat, q < H.size → ¬ AX q → H1[q]? = H[q]?) → va_S A0 H0 H1 locs1 → H1[q9]? = some ce → ce.vm = .none → s.vm.findClass E = some ce.cls → vx_W p l e R s m args below meth c H1 locs1 (cells + mc) (slots + ms) Q (F0 m pc ls rest) q9)
    (kk : ∀ (u : S) (t : State) (H1 : Heap) (locs1 : List Loc), t.heap = H1 → s.vm.Alike t.vm → post u → B u t → H.size ≤ H1.size → (∀ q : Nat, q < H.size → ¬ A1 q → H1[q]? = H[q]?) → va_S A0 H0 H1 locs1 → W p l e R s m args below meth c H1 locs1 (cells + mc) (slots + ms) Q (F0 m (pc + 3) ls (rest))) : W p l e R s m args below meth c H locs cells slots Q (F0 m pc ls st0) := by
  intro T hT X
  rcases hr T hT X with ⟨v, st₀, t, T', L, h0, X', hL, e1, e2, ⟨⟨u, hv, hp, hb⟩, hF⟩, st⟩ | ⟨q, st₀, t, T', L, E, ce, h0, X', hL, e1, e2, ⟨u, hp, hb, hF⟩, hce, hcv, hcl, st⟩
  · cases hv
    obtain ⟨k1, k2, k3⟩ := vx_keep h0 e1 hS hA hf hL hF
    obtain ⟨t2, a1, b1⟩ := kk u t T'.heap (locs ++ L) e1.symm (by rw [← e2]; exact X'.warmed.alike) hp hb k1 k2 k3 T' rfl X'
    exact ⟨t2, st t2 a1, b1⟩
  · obtain ⟨k1, k2, k3⟩ := vx_keep h0 e1 hS hAX hf hL hF
    obtain ⟨t2, a1, b1⟩ := kx E ce q u t T'.heap (locs ++ L) e1.symm (by rw [← e2]; exact X'.warmed.alike) hp hb k1 k2 k3 (by rw [e1]; exact hce) hcv hcl T' rfl X'
    exact ⟨t2, st.trans a1, b1⟩
end Rows
section Ends
variable {p : Program} {l : Launch} {e : Env} {R : Room} {s : State} {m : MethodId} {args : Array Value} {below : List Frame} {meth : Method} {c : Code} {H : Heap} {locs : List Loc} {cells slots : Nat} {Q : State → Prop}
variable {mc ms : Nat} {free : Addr → Prop} {A0 A1 : Nat → Prop} {H0 : Heap} {a : Array Value} {ls : Array Slot} {st0 rest : List Value}
variable {Qc : Array Value → State → Outcome → State → Prop} {XC : String → State → State → Prop}
/-- what a body that may throw owes at its end -/
def vx_MQ (below : List Frame) (Qc : Array Value → State → Outcome → State → Prop) (XC : String → State → State → Prop) (a : Array Value) (s : State) (mc ms : Nat) (free : Addr → Prop) : State → Prop := fun t =>
  ∃ o, t.status = .running ∧ Ended t below o ∧ vx_Q Qc XC mc ms free a s o t
theorem vx_ret {g : JFrame} {mc ms : Nat} (k : W p l e R s m args below meth c H locs cells slots (MQ below Qc args s mc ms free) g) : W p l e R s m args below meth c H locs cells slots (vx_MQ below Qc XC args s mc ms free) g := by
  intro T hT X
  obtain ⟨t, a1, o, b1, b2, b3, b4⟩ := k T hT X
  exact ⟨t, a1, o, b1, b2, Or.inl ⟨b3, b4⟩⟩
/-- not caught here: it goes on to the caller -/
theorem vx_widen {g : JFrame} {q : Addr} {k n : Nat} (h1 : cells ≤ k) (h2 : slots ≤ n) (kk : vx_W p l e R s m args below meth c H locs k n Q g q) : vx_W p l e R s m args below meth c H locs cells slots Q g q := fun T hT X => kk T hT (stand_widen X h1 h2)
theorem vx_out {pc : Nat} {E : String} {ce : Cell} {q : Addr} {mc ms : Nat} (hout : ∀ x ∈ c.exceptionTable.toList, covers x pc = false) (hlocks : meth.locks = false) (hcell : H[q]? = some ce) (hv : ce.vm = .none) (hcl : s.vm.findClass E = some ce.cls)
    (hx : ∀ t : State, t.heap = H → s.vm.Alike t.vm → XC E s t) (hf : ∀ z ∈ locs, free z.base) (hc : cells ≤ mc) (hs : slots ≤ ms) :
    vx_W p l e R s m args below meth c H locs cells slots (vx_MQ below Qc XC args s mc ms free) (F0 m pc ls rest) q := by
  intro T hT X
  obtain ⟨st1, hrun, hend, hW, hsm⟩ := X.leaveThrown q (g := F0 m pc ls rest) rfl rfl rfl hout hlocks
  have hcell9 : (T.setFrames (.throwing q :: below)).heap[q]? = some ce := by
    show T.heap[q]? = some ce
    rw [hT]; exact hcell
  exact ⟨_, st1, .threw q, hrun, hend, Or.inr ⟨q, rfl, E, ce, locs, hx _ hT hW.alike, hcell9, hv, hcl, hW, hsm.mono hc hs, hf⟩⟩
theorem vx_frame {U : State} {k n : Nat} (h : s.sameButNew ({ U with vm := s.vm } : State) locs k n) : s.heap.size ≤ U.heap.size ∧ ∀ q : Nat, q < s.heap.size → (∀ z ∈ locs, z.base ≠ q) → U.heap[q]? = s.heap[q]? := by
  obtain ⟨-, h2, -, -, -, h6⟩ := h
  refine ⟨h2, fun q hq hz => ?_⟩
  obtain ⟨c9, e1, e2, e3, e4⟩ := h6 q _ (Array.getElem?_eq_getElem hq)
  have hs : c9.slots = (s.heap[q]).slots := Array.ext_getElem? fun i => e4 i fun hm => hz _ hm rfl
  have h9 : c9 = s.heap[q] := by
    rw [hs] at e2
    exact e2
  have e5 : U.heap[q]? = some c9 := e1
  rw [e5, h9, Array.getElem?_eq_getElem hq]
/-- the words of a throw but the four that speak of the heap -/
def vx_no (w : Cond) : Bool := decide (w ≠ .isRef (.static Bundle.tN "UNASSIGNED_STACK" Bundle.steD)) && decide (w ≠ .isRef (.static Bundle.tN "SUPPRESSED_SENTINEL" Bundle.listD)) && decide (w ≠ .laysStatic Bundle.tN "UNASSIGNED_STACK" Bundle.steD) && decide (w ≠ .laysStatic Bundle.tN "SUPPRESSED_SENTINEL" Bundle.listD)
def vx_at0 (own : String) (ic : Nat) (X : String) (names : List String) : List Cond := (Bundle.ownAtoms0 own ic X names).filter vx_no
def vx_atS (own : String) (ic : Nat) (X : String) (names : List String) : List Cond := (Bundle.ownAtoms own ic X names).filter vx_no
/-- a word that the tables alone decide, or a good one -/
def vx_ot (w : Cond) : Bool := w.onTables || goodWord w
theorem vx_ot_at {args a' : Array Value} {s U : State} {w : Cond} (hW : s.WarmedH U.vm) (hvm : s.vm = U.vm) (hg : vx_ot w = true) (h : w.before args s = true) : w.before a' U = true := by
  simp only [vx_ot, Bool.or_eq_true] at hg
  rcases hg with hg | hg
  · exact va_tabs hg hvm h
  · exact word_at hW (good_of_word hg) h
/-- a list's words: the good ones out of the method's own list, the others by premises of their own -/
theorem vx_hat {args : Array Value} {s : State} {L B : List Cond} (h1 : ∀ w ∈ L.filter goodWord, w.before args s = true) (h2 : ∀ w ∈ L.filter (fun w => !goodWord w), w ∈ B) (h3 : ∀ w ∈ B, w.before args s = true) : ∀ w ∈ L, w.before args s = true := by
  intro w hw
  by_cases g : goodWord w = true
  · exact h1 w (List.mem_filter.mpr ⟨hw, g⟩)
  · refine h3 w (h2 w (List.mem_filter.mpr ⟨hw, ?_⟩))
    show (!goodWord w) = true
    cases hgw : goodWord w
    · rfl
    · exact absurd hgw g
theorem vx_c {args : Array Value} {s : State} {w : Cond} {B : List Cond} (h : w.before args s = true) (t : ∀ w ∈ B, w.before args s = true) : ∀ w' ∈ w :: B, w'.before args s = true := fun w' h' => (List.mem_cons.mp h').elim (fun e => by rw [e]; exact h) (t w')
theorem vx_n {args : Array Value} {s : State} : ∀ w ∈ ([] : List Cond), w.before args s = true := fun _ h => nomatch h
theorem vx_own {args : Array Value} {s : State} {L : List Cond} (h1 : ∀ w ∈ L.filter vx_no, w.before args s = true)
    (hU : (Cond.isRef (.static Bundle.tN "UNASSIGNED_STACK" Bundle.steD)).before args s = true) (hN : (Cond.isRef (.static Bundle.tN "SUPPRESSED_SENTINEL" Bundle.listD)).before args s = true)
    (lU : (Cond.laysStatic Bundle.tN "UNASSIGNED_STACK" Bundle.steD).before args s = true) (lN : (Cond.laysStatic Bundle.tN "SUPPRESSED_SENTINEL" Bundle.listD).before args s = true) : ∀ w ∈ L, w.before args s = true := by
  intro w hw
  by_cases e1 : w = .isRef (.static Bundle.tN "UNASSIGNED_STACK" Bundle.steD)
  · rw [e1]; exact hU
  · by_cases e2 : w = .isRef (.static Bundle.tN "SUPPRESSED_SENTINEL" Bundle.listD)
    · rw [e2]; exact hN
    · by_cases e3 : w = .laysStatic Bundle.tN "UNASSIGNED_STACK" Bundle.steD
      · rw [e3]; exact lU
      · by_cases e4 : w = .laysStatic Bundle.tN "SUPPRESSED_SENTINEL" Bundle.listD
        · rw [e4]; exact lN
        · exact h1 w (List.mem_filter.mpr ⟨hw, by unfold vx_no; rw [decide_eq_true e1, decide_eq_true e2, decide_eq_true e3, decide_eq_true e4]; rfl⟩)
/-- where a static field lies, its class's statics cell in H -/
def vx_L (C n d : String) (A : Nat → Prop) (U : State) (H : Heap) : Prop := ∃ (c : ClassId) (k : Class) (i : Nat) (f : Field) (a : Nat) (cell : Cell), U.vm.findClass C = some c ∧ U.fieldFound? C n d = some (c, k, i, f) ∧ f.isStatic = true ∧ k.statics = some a ∧ H[a]? = some cell ∧ cell.vm.isStatics = true ∧ cell.cls = c ∧ f.slot < cell.slots.size ∧ k.staticTypes[f.slot]? = some f.type ∧ ¬ A a
theorem vx_L.moved {C n d : String} {A : Nat → Prop} {u U : State} {H : Heap} (hvm : u.vm.Alike U.vm) (h : vx_L C n d A u H) : vx_L C n d A U H := by
  obtain ⟨c, k, i, f, a, cell, h1, h2, h3, h4, h5, h6, h7, h8, h9, h10⟩ := h
  obtain ⟨k', hi', he⟩ := State.fieldFound?_setVm hvm h2
  exact ⟨c, k', i, f, a, cell, by rw [hvm.findClass]; exact h1, hi', h3, by rw [he]; exact h4, h5, h6, h7, h8, by rw [he]; exact h9, h10⟩
theorem vx_L.kept {C n d : String} {A : Nat → Prop} {U : State} {H H1 : Heap} (h : vx_L C n d A U H) (hq : ∀ a : Nat, a < H.size → ¬ A a → H1[a]? = H[a]?) : vx_L C n d A U H1 := by
  obtain ⟨c, k, i, f, a, cell, h1, h2, h3, h4, h5, h6, h7, h8, h9, h10⟩ := h
  exact ⟨c, k, i, f, a, cell, h1, h2, h3, h4, by rw [hq a (Array.getElem?_eq_some_iff.mp h5).1 h10]; exact h5, h6, h7, h8, h9, h10⟩
theorem vx_L.narrow {C n d : String} {A B : Nat → Prop} {U : State} {H : Heap} (h : vx_L C n d A U H) (hAB : ∀ q, B q → A q) : vx_L C n d B U H := by
  obtain ⟨c, k, i, f, a, cell, h1, h2, h3, h4, h5, h6, h7, h8, h9, h10⟩ := h
  exact ⟨c, k, i, f, a, cell, h1, h2, h3, h4, h5, h6, h7, h8, h9, fun z => h10 (hAB _ z)⟩
theorem vx_L.word {C n d : String} {A : Nat → Prop} {s : State} {args : Array Value} (h : vx_L C n d A s s.heap) : (Cond.laysStatic C n d).before args s = true := by
  obtain ⟨c, k, i, f, a, cell, h1, h2, h3, h4, h5, h6, h7, h8, h9, -⟩ := h
  show (Cond.laysStatic C n d).holds args s none s [] = true
  exact Cond.laysStatic_of h1 h2 h3 h4 h5 h6 h7 h8 h9
/-- .. and what it holds: null or some reference -/
def vx_Zq (C n d : String) (A : Nat → Prop) (U : State) (H : Heap) : Prop := va_Zq C n d A U H ∧ vx_L C n d A U H
theorem vx_Zq.moved {C n d : String} {A : Nat → Prop} {u U : State} {H : Heap} (hvm : u.vm.Alike U.vm) (h : vx_Zq C n d A u H) : vx_Zq C n d A U H := ⟨va_Zq.moved hvm h.1, vx_L.moved hvm h.2⟩
theorem vx_Zq.kept {C n d : String} {A : Nat → Prop} {U : State} {H H1 : Heap} (h : vx_Zq C n d A U H) (hq : ∀ a : Nat, a < H.size → ¬ A a → H1[a]? = H[a]?) : vx_Zq C n d A U H1 := ⟨va_Zq.kept h.1 hq, vx_L.kept h.2 hq⟩
theorem vx_Zq.narrow {C n d : String} {A B : Nat → Prop} {U : State} {H : Heap} (h : vx_Zq C n d A U H) (hAB : ∀ q, B q → A q) : vx_Zq C n d B U H := ⟨va_Zq.narrow h.1 hAB, vx_L.narrow h.2 hAB⟩
theorem vx_Zqof {args : Array Value} {s : State} {C n d : String} {A : Nat → Prop} (hl : (Cond.laysStatic C n d).before args s = true) (hini : (Cond.initialized C).before args s = true) (h : (Cond.isRef (.static C n d)).before args s = true) (hA : ∀ a : Nat, a < s.heap.size → ¬ A a) : vx_Zq C n d A s s.heap := by
  refine ⟨va_Zqof hl hini h hA, ?_⟩
  obtain ⟨c, k, i, f, a, cell, h1, h2, h3, h4, h5, h6, h7, h8, h9⟩ := Cond.laysStatic_spec hl
  exact ⟨c, k, i, f, a, cell, h1, h2, h3, h4, h5, h6, h7, h8, h9, hA a (Array.getElem?_eq_some_iff.mp h5).1⟩
theorem vx_isRef {C n d : String} {v : Value} {A : Nat → Prop} {s : State} {args : Array Value} (h : va_Z C n d v A s s.heap) (hv : v.isRef = true) : (Cond.isRef (.static C n d)).before args s = true := by
  obtain ⟨cf, kf, fi, f, a, cell, h1, h2, h3, h4, h5, h6, h7, -⟩ := h
  have he : (Term.static C n d).eval args s none [] s = some v := by
    simp [Term.eval, State.fieldNamed?, h1, h2, h4, h5, h6, h7]
  simp only [Cond.before, Cond.holds, Cond.value, he]
  cases v <;> simp_all [Value.isRef]
theorem vx_isRefq {C n d : String} {A : Nat → Prop} {s : State} {args : Array Value} (h : va_Zq C n d A s s.heap) : (Cond.isRef (.static C n d)).before args s = true := by
  rcases h with h | ⟨t, h⟩
  · exact vx_isRef h rfl
  · exact vx_isRef h rfl
/-- the same frame, seen from here: as if the method were called anew in this heap -/
theorem vx_rebase {T : State} (X : Stand p l e R s m args below meth c T locs cells slots) {R' : Room} (hf : R'.frames ≤ R.frames) (hl : R'.locals ≤ R.locals) (hc : cells + R'.cells ≤ R.cells) (hs : slots + R'.slots ≤ R.slots) :
    Stand p l e R' ((T.setVm s.vm).setFrames (.invoking m args :: below)) m args below meth c T [] 0 0 := by
  have htop : (T.setVm s.vm).topJava?.isSome := X.here.top
  have hF : ((T.setVm s.vm).setFrames (.invoking m args :: below)).frames = .invoking m args :: below := State.frames_setFrames _ (State.cur_lt_of_top htop)
  obtain ⟨g₀, hg0⟩ := Option.isSome_iff_exists.mp htop
  obtain ⟨r, hr⟩ := State.topJava?_eq_some.mp hg0
  have hl9 : e.platform.stackLimits (T.setVm s.vm).me = e.platform.stackLimits s.me := X.limits
  have hb9 : (T.setVm s.vm).me.stackBytes = s.me.stackBytes := X.bytes
  refine ⟨X.admits, X.cas, X.clock, hF, ?_, X.hears, X.method, X.code, X.here, X.tail, X.warmed, ?_, ?_, ?_⟩
  · have h := X.room
    have hU : ((T.setVm s.vm).setFrames (.invoking m args :: below)).localsInUse = s.localsInUse := by
      rw [State.localsInUse_invoking hF (meth := meth) (c := c) X.method X.code, State.localsInUse_invoking X.frames X.method X.code]
    simp only [State.hasRoom, Bool.and_eq_true, decide_eq_true_eq] at h ⊢
    obtain ⟨⟨⟨⟨h1, h2, h3, h4, h5, h6⟩, h7⟩, h8⟩, h9⟩ := h
    rw [X.frames, List.length_cons] at h2 h3
    have q1 := X.heapSize
    have q2 := X.used
    simp only [hF, hU, List.length_cons, State.stackLimits_setFrames, State.stackBytes_setFrames, hl9, hb9]
    refine ⟨⟨⟨⟨by omega, by omega, by omega, by omega, by omega, h6⟩, ?_⟩, ?_⟩, X.book⟩
    · show T.heap.size + R'.cells ≤ e.platform.maxCells
      omega
    · show T.slotsUsed + R'.slots ≤ e.platform.maxSlots
      omega
  · rw [State.stackLimits_setFrames]; rfl
  · rw [State.stackBytes_setFrames]; rfl
  · refine ⟨?_, Nat.le_refl _, Nat.le_refl _, ?_, ?_, fun a c9 h9 => ⟨c9, h9, rfl, rfl, fun _ _ => rfl⟩⟩
    · obtain ⟨t, ht, -⟩ := State.frames_cons hr
      show T.setVm s.vm = { ((T.setVm s.vm).setFrames (.invoking m args :: below)).setFrames (T.setVm s.vm).frames with heap := T.heap, slotsUsed := T.slotsUsed }
      rw [State.setFrames_setFrames, State.setFrames_self ht]
      rfl
    · show T.slotsUsed = T.slotsUsed + ((T.heap.toList.drop T.heap.size).map (·.slots.size)).sum
      rw [List.drop_eq_nil_of_le (Nat.le_of_eq Array.length_toList)]
      rfl
    · show ((T.heap.toList.drop T.heap.size).map (·.slots.size)).sum ≤ 0
      rw [List.drop_eq_nil_of_le (Nat.le_of_eq Array.length_toList)]
      exact Nat.le_refl _
/-- 'throw new E()': new; dup; invokespecial; athrow -/
theorem vx_throw0 {cc : ByteArray} {pc : Nat} (hexec : p.tables.exec = Jvm.exec) (hb : c.code = cc) (hl : l.stackTraces = false) {own cls : String} {names : List String} {ik ic mc ms : Nat} {A : Nat → Prop}
    (hown : s.vm.findClass own = some m.cls) (hcls : Bundle.fit cls = true) (hnames : ∀ n ∈ names, Bundle.fit n = true)
    (hk : (Cond.classLink own ik cls).before args s = true) (hini : (Cond.initialized cls).before args s = true) (hat : ∀ w ∈ vx_at0 own ic cls names, w.before args s = true)
    (hgood : ∀ w ∈ Cond.classLink own ik cls :: Cond.initialized cls :: vx_at0 own ic cls names, vx_ot w = true)
    (hU : vx_Zq Bundle.tN "UNASSIGNED_STACK" Bundle.steD A s s.heap) (hN : vx_Zq Bundle.tN "SUPPRESSED_SENTINEL" Bundle.listD A s s.heap) (hS : va_S A s.heap H locs) (hsize : ls.size = c.maxLocals)
    (d0 : decode cc pc = .ok (.new ik, 3)) (d3 : decode cc (pc + 3) = .ok (.dup, 1)) (d4 : decode cc (pc + 4) = .ok (.invokespecial ic, 3)) (d7 : decode cc (pc + 7) = .ok (.athrow, 1))
    (hout : ∀ x ∈ c.exceptionTable.toList, covers x (pc + 7) = false)
    (hRframes : names.length + 3 < R.frames) (hRlocals : (rest.map fun v => v.category).sum + (13 * (names.length + 1) + 42) ≤ R.locals) (hRcells : cells + 1 ≤ R.cells) (hRslots : slots + 6 ≤ R.slots) (hlocks : meth.locks = false)
    (hx : ∀ t : State, s.vm.Alike t.vm → H.size ≤ t.heap.size → (∀ q : Nat, q < H.size → t.heap[q]? = H[q]?) → XC cls s t)
    (hf : ∀ z ∈ locs, free z.base) (hc : cells + 1 ≤ mc) (hs : slots + 6 ≤ ms) :
    W p l e R s m args below meth c H locs cells slots (vx_MQ below Qc XC args s mc ms free) (F0 m pc ls rest) := by
  intro T hT X
  have htr : e.platform.stackTraces = false := (show e.platform.stackTraces = l.stackTraces by rw [X.admits.platform]).trans hl
  have Y := vx_rebase X (R' := { frames := R.frames, locals := R.locals, cells := 1, slots := 6 }) (Nat.le_refl _) (Nat.le_refl _) hRcells hRslots
  obtain ⟨s', hA⟩ : ∃ z, z = (T.setVm s.vm).setFrames (.invoking m args :: below) := ⟨_, rfl⟩
  rw [← hA] at Y
  have hvm : s'.vm = s.vm := by rw [hA]; rfl
  have hhp : s'.heap = H := by rw [hA]; exact hT
  have hW0 : s.WarmedH s'.vm := by rw [hvm]; exact State.WarmedH.refl s
  have hat' : ∀ w ∈ vx_at0 own ic cls names, w.before args s' = true := fun w hw => vx_ot_at hW0 hvm.symm (hgood w (List.mem_cons_of_mem _ (List.mem_cons_of_mem _ hw))) (hat w hw)
  have hk' : (Cond.classLink own ik cls).before args s' = true := vx_ot_at hW0 hvm.symm (hgood _ List.mem_cons_self) hk
  have hini' : (Cond.initialized cls).before args s' = true := vx_ot_at hW0 hvm.symm (hgood _ (List.mem_cons_of_mem _ List.mem_cons_self)) hini
  have hU' : vx_Zq Bundle.tN "UNASSIGNED_STACK" Bundle.steD A s' s'.heap := by rw [hhp]; exact vx_Zq.moved hW0.alike (hU.kept hS.2.1)
  have hN' : vx_Zq Bundle.tN "SUPPRESSED_SENTINEL" Bundle.listD A s' s'.heap := by rw [hhp]; exact vx_Zq.moved hW0.alike (hN.kept hS.2.1)
  have h : ∀ w ∈ Bundle.ownAtoms0 own ic cls names, w.before args s' = true := vx_own hat' (vx_isRefq hU'.1) (vx_isRefq hN'.1) hU'.2.word hN'.2.word
  have hown' : s'.vm.findClass own = some m.cls := by rw [hvm]; exact hown
  have hins : (Cond.instantiable cls 6).before args s' = true := h _ (by simp [Bundle.ownAtoms0])
  obtain ⟨vm₁, cX, kX, hfX, hkX, -, -, X₁, st1⟩ := Y.newCold hexec (own := own) (C := cls) (index := ik) (n := 6) hown' hk' hins hini'
    (g := F0 m pc ls rest) rfl (by rw [hb]; exact d0) (Nat.le_refl _) (Nat.le_refl _)
  generalize hT1 : (T.setVm vm₁).pushCell { cls := cX, slots := kX.instanceTypes.map defaultValue, vm := .none } = T1 at X₁ st1
  have hcat : (Value.ref T.heap.size).category = 1 := rfl
  have hcellA : T1.heap[T.heap.size]? = some (freshCell cX kX) := by rw [← hT1]; exact State.heap_pushCell_size _ _
  have d3' : decode c.code (pc + 3) = .ok (.dup, 1) := by rw [hb]; exact d3
  obtain ⟨U, hsteps, hrun, hend, hW, hsame, ce, hce, hO⟩ := X₁.ctorThrow0 hexec htr (own := own) (cls := cls) (names := names) (ic := ic) hown' hcls hnames h (fun x hx => nomatch hx) hfX hkX hcellA (by rw [hhp, hT]; exact Nat.le_refl _)
    (g := { method := m, pc := pc + 4, locals := ls, stack := .ref T.heap.size :: .ref T.heap.size :: rest, locked := none }) rfl hsize rfl rfl (rest := rest) rfl
    (by rw [hb]; exact d4) (by rw [hb]; exact d7) hout hRframes (by simp only [List.map_cons, List.sum_cons, hcat]; omega) hlocks
  obtain ⟨f1, f2⟩ := vx_frame hsame
  rw [hhp] at f1 f2
  have hWs : s.WarmedH U.vm := State.WarmedH.trans hW0 hW
  have hcl : s.vm.findClass cls = some ce.cls := by
    have h9 := hO.cls
    rw [hvm] at h9
    exact h9
  have hall : s.sameButNew ({ U with vm := s.vm } : State) locs mc ms := by
    subst hA
    obtain ⟨e1, e2⟩ := hsame
    rw [State.setFrames_setFrames] at e1
    have h2 : (T.setVm s.vm).sameButNew ({ U with vm := s.vm } : State) [] (0 + 1) (0 + 6) := ⟨e1, e2⟩
    have h3 := X.same.trans h2
    rw [List.append_nil] at h3
    exact h3.mono hc hs
  refine ⟨U, ?_, .threw T.heap.size, hrun, hend, Or.inr ⟨T.heap.size, rfl, cls, ce, locs, hx U hWs.alike f1 (fun q hq => f2 q hq (fun z hz => nomatch hz)), hce, hO.vm, hcl, hWs, hall, hf⟩⟩
  refine st1 _ ?_
  show Steps p.tables e below (T1.setTop { method := m, pc := pc + 3, locals := ls, stack := .ref T.heap.size :: rest, locked := none }) _
  jvm_step X₁.here [X₁.here.top, hexec, d3', Value.category]
  exact hsteps
/-- 'throw new E("text")': new; dup; ldc; invokespecial; athrow -/
theorem vx_throwS {cc : ByteArray} {pc : Nat} (hexec : p.tables.exec = Jvm.exec) (hb : c.code = cc) (hl : l.stackTraces = false) {own cls text : String} {names : List String} {ik is ic mc ms sa : Nat} {A : Nat → Prop}
    (hown : s.vm.findClass own = some m.cls) (hcls : Bundle.fit cls = true) (hnames : ∀ n ∈ names, Bundle.fit n = true)
    (hk : (Cond.classLink own ik cls).before args s = true) (hini : (Cond.initialized cls).before args s = true) (hstr : vk_R own is text sa s) (hat : ∀ w ∈ vx_atS own ic cls names, w.before args s = true)
    (hgood : ∀ w ∈ Cond.classLink own ik cls :: Cond.initialized cls :: vx_atS own ic cls names, vx_ot w = true)
    (hU : vx_Zq Bundle.tN "UNASSIGNED_STACK" Bundle.steD A s s.heap) (hN : vx_Zq Bundle.tN "SUPPRESSED_SENTINEL" Bundle.listD A s s.heap) (hS : va_S A s.heap H locs) (hsize : ls.size = c.maxLocals)
    (d0 : decode cc pc = .ok (.new ik, 3)) (d3 : decode cc (pc + 3) = .ok (.dup, 1)) (d4 : decode cc (pc + 4) = .ok (.ldc is, 2)) (d6 : decode cc (pc + 6) = .ok (.invokespecial ic, 3)) (d9 : decode cc (pc + 9) = .ok (.athrow, 1))
    (hout : ∀ x ∈ c.exceptionTable.toList, covers x (pc + 9) = false)
    (hRframes : names.length + 3 < R.frames) (hRlocals : (rest.map fun v => v.category).sum + (13 * (names.length + 1) + 43) ≤ R.locals) (hRcells : cells + 1 ≤ R.cells) (hRslots : slots + 6 ≤ R.slots) (hlocks : meth.locks = false)
    (hx : ∀ t : State, s.vm.Alike t.vm → H.size ≤ t.heap.size → (∀ q : Nat, q < H.size → t.heap[q]? = H[q]?) → XC cls s t)
    (hf : ∀ z ∈ locs, free z.base) (hc : cells + 1 ≤ mc) (hs : slots + 6 ≤ ms) :
    W p l e R s m args below meth c H locs cells slots (vx_MQ below Qc XC args s mc ms free) (F0 m pc ls rest) := by
  intro T hT X
  have htr : e.platform.stackTraces = false := (show e.platform.stackTraces = l.stackTraces by rw [X.admits.platform]).trans hl
  have Y := vx_rebase X (R' := { frames := R.frames, locals := R.locals, cells := 1, slots := 6 }) (Nat.le_refl _) (Nat.le_refl _) hRcells hRslots
  obtain ⟨s', hA⟩ : ∃ z, z = (T.setVm s.vm).setFrames (.invoking m args :: below) := ⟨_, rfl⟩
  rw [← hA] at Y
  have hvm : s'.vm = s.vm := by rw [hA]; rfl
  have hhp : s'.heap = H := by rw [hA]; exact hT
  have hW0 : s.WarmedH s'.vm := by rw [hvm]; exact State.WarmedH.refl s
  have hat' : ∀ w ∈ vx_atS own ic cls names, w.before args s' = true := fun w hw => vx_ot_at hW0 hvm.symm (hgood w (List.mem_cons_of_mem _ (List.mem_cons_of_mem _ hw))) (hat w hw)
  have hk' : (Cond.classLink own ik cls).before args s' = true := vx_ot_at hW0 hvm.symm (hgood _ List.mem_cons_self) hk
  have hini' : (Cond.initialized cls).before args s' = true := vx_ot_at hW0 hvm.symm (hgood _ (List.mem_cons_of_mem _ List.mem_cons_self)) hini
  have hU' : vx_Zq Bundle.tN "UNASSIGNED_STACK" Bundle.steD A s' s'.heap := by rw [hhp]; exact vx_Zq.moved hW0.alike (hU.kept hS.2.1)
  have hN' : vx_Zq Bundle.tN "SUPPRESSED_SENTINEL" Bundle.listD A s' s'.heap := by rw [hhp]; exact vx_Zq.moved hW0.alike (hN.kept hS.2.1)
  have h : ∀ w ∈ Bundle.ownAtoms own ic cls names, w.before args s' = true := vx_own hat' (vx_isRefq hU'.1) (vx_isRefq hN'.1) hU'.2.word hN'.2.word
  have hown' : s'.vm.findClass own = some m.cls := by rw [hvm]; exact hown
  have hins : (Cond.instantiable cls 6).before args s' = true := h _ (by simp [Bundle.ownAtoms])
  obtain ⟨vm₁, cX, kX, hfX, hkX, -, -, X₁, st1⟩ := Y.newCold hexec (own := own) (C := cls) (index := ik) (n := 6) hown' hk' hins hini'
    (g := F0 m pc ls rest) rfl (by rw [hb]; exact d0) (Nat.le_refl _) (Nat.le_refl _)
  generalize hT1 : (T.setVm vm₁).pushCell { cls := cX, slots := kX.instanceTypes.map defaultValue, vm := .none } = T1 at X₁ st1
  have hcat : (Value.ref T.heap.size).category = 1 := rfl
  have hcellA : T1.heap[T.heap.size]? = some (freshCell cX kX) := by rw [← hT1]; exact State.heap_pushCell_size _ _
  have d3' : decode c.code (pc + 3) = .ok (.dup, 1) := by rw [hb]; exact d3
  have d4' : decode c.code (pc + 4) = .ok (.ldc is, 2) := by rw [hb]; exact d4
  have hstr' : vk_R own is text sa s' := vk_R.warm hW0 hstr
  obtain ⟨U, hsteps, hrun, hend, hW, hsame, ce, hce, hO⟩ := X₁.ctorThrowS hexec htr (own := own) (cls := cls) (names := names) (ic := ic) hown' hcls hnames h (fun x hx => nomatch hx) hfX hkX hcellA (by rw [hhp, hT]; exact Nat.le_refl _) (msg := .ref sa) rfl
    (g := { method := m, pc := pc + 6, locals := ls, stack := .ref sa :: .ref T.heap.size :: .ref T.heap.size :: rest, locked := none }) rfl hsize rfl rfl (rest := rest) rfl
    (by rw [hb]; exact d6) (by rw [hb]; exact d9) hout hRframes (by simp only [List.map_cons, List.sum_cons, hcat]; omega) hlocks
  obtain ⟨f1, f2⟩ := vx_frame hsame
  rw [hhp] at f1 f2
  have hWs : s.WarmedH U.vm := State.WarmedH.trans hW0 hW
  have hcl : s.vm.findClass cls = some ce.cls := by
    have h9 := hO.cls
    rw [hvm] at h9
    exact h9
  have hall : s.sameButNew ({ U with vm := s.vm } : State) locs mc ms := by
    subst hA
    obtain ⟨e1, e2⟩ := hsame
    rw [State.setFrames_setFrames] at e1
    have h2 : (T.setVm s.vm).sameButNew ({ U with vm := s.vm } : State) [] (0 + 1) (0 + 6) := ⟨e1, e2⟩
    have h3 := X.same.trans h2
    rw [List.append_nil] at h3
    exact h3.mono hc hs
  refine ⟨U, ?_, .threw T.heap.size, hrun, hend, Or.inr ⟨T.heap.size, rfl, cls, ce, locs, hx U hWs.alike f1 (fun q hq => f2 q hq (fun z hz => nomatch hz)), hce, hO.vm, hcl, hWs, hall, hf⟩⟩
  refine st1 _ ?_
  show Steps p.tables e below (T1.setTop { method := m, pc := pc + 3, locals := ls, stack := .ref T.heap.size :: rest, locked := none }) _
  jvm_step X₁.here [X₁.here.top, hexec, d3', Value.category]
  exact X₁.ldcString hexec (own := own) (text := text) (index := is) (a := sa) hown' hstr'.1 hstr'.2
    (g := { method := m, pc := pc + 4, locals := ls, stack := .ref T.heap.size :: .ref T.heap.size :: rest, locked := none }) rfl d4' _ hsteps
/-- 'throw new E("text")', the text by a wide index -/
theorem vx_throwSW {cc : ByteArray} {pc : Nat} (hexec : p.tables.exec = Jvm.exec) (hb : c.code = cc) (hl : l.stackTraces = false) {own cls text : String} {names : List String} {ik is ic mc ms sa : Nat} {A : Nat → Prop}
    (hown : s.vm.findClass own = some m.cls) (hcls : Bundle.fit cls = true) (hnames : ∀ n ∈ names, Bundle.fit n = true)
    (hk : (Cond.classLink own ik cls).before args s = true) (hini : (Cond.initialized cls).before args s = true) (hstr : vk_R own is text sa s) (hat : ∀ w ∈ vx_atS own ic cls names, w.before args s = true)
    (hgood : ∀ w ∈ Cond.classLink own ik cls :: Cond.initialized cls :: vx_atS own ic cls names, vx_ot w = true)
    (hU : vx_Zq Bundle.tN "UNASSIGNED_STACK" Bundle.steD A s s.heap) (hN : vx_Zq Bundle.tN "SUPPRESSED_SENTINEL" Bundle.listD A s s.heap) (hS : va_S A s.heap H locs) (hsize : ls.size = c.maxLocals)
    (d0 : decode cc pc = .ok (.new ik, 3)) (d3 : decode cc (pc + 3) = .ok (.dup, 1)) (d4 : decode cc (pc + 4) = .ok (.ldc_w is, 3)) (d7 : decode cc (pc + 7) = .ok (.invokespecial ic, 3)) (d10 : decode cc (pc + 10) = .ok (.athrow, 1))
    (hout : ∀ x ∈ c.exceptionTable.toList, covers x (pc + 10) = false)
    (hRframes : names.length + 3 < R.frames) (hRlocals : (rest.map fun v => v.category).sum + (13 * (names.length + 1) + 43) ≤ R.locals) (hRcells : cells + 1 ≤ R.cells) (hRslots : slots + 6 ≤ R.slots) (hlocks : meth.locks = false)
    (hx : ∀ t : State, s.vm.Alike t.vm → H.size ≤ t.heap.size → (∀ q : Nat, q < H.size → t.heap[q]? = H[q]?) → XC cls s t)
    (hf : ∀ z ∈ locs, free z.base) (hc : cells + 1 ≤ mc) (hs : slots + 6 ≤ ms) :
    W p l e R s m args below meth c H locs cells slots (vx_MQ below Qc XC args s mc ms free) (F0 m pc ls rest) := by
  intro T hT X
  have htr : e.platform.stackTraces = false := (show e.platform.stackTraces = l.stackTraces by rw [X.admits.platform]).trans hl
  have Y := vx_rebase X (R' := { frames := R.frames, locals := R.locals, cells := 1, slots := 6 }) (Nat.le_refl _) (Nat.le_refl _) hRcells hRslots
  obtain ⟨s', hA⟩ : ∃ z, z = (T.setVm s.vm).setFrames (.invoking m args :: below) := ⟨_, rfl⟩
  rw [← hA] at Y
  have hvm : s'.vm = s.vm := by rw [hA]; rfl
  have hhp : s'.heap = H := by rw [hA]; exact hT
  have hW0 : s.WarmedH s'.vm := by rw [hvm]; exact State.WarmedH.refl s
  have hat' : ∀ w ∈ vx_atS own ic cls names, w.before args s' = true := fun w hw => vx_ot_at hW0 hvm.symm (hgood w (List.mem_cons_of_mem _ (List.mem_cons_of_mem _ hw))) (hat w hw)
  have hk' : (Cond.classLink own ik cls).before args s' = true := vx_ot_at hW0 hvm.symm (hgood _ List.mem_cons_self) hk
  have hini' : (Cond.initialized cls).before args s' = true := vx_ot_at hW0 hvm.symm (hgood _ (List.mem_cons_of_mem _ List.mem_cons_self)) hini
  have hU' : vx_Zq Bundle.tN "UNASSIGNED_STACK" Bundle.steD A s' s'.heap := by rw [hhp]; exact vx_Zq.moved hW0.alike (hU.kept hS.2.1)
  have hN' : vx_Zq Bundle.tN "SUPPRESSED_SENTINEL" Bundle.listD A s' s'.heap := by rw [hhp]; exact vx_Zq.moved hW0.alike (hN.kept hS.2.1)
  have h : ∀ w ∈ Bundle.ownAtoms own ic cls names, w.before args s' = true := vx_own hat' (vx_isRefq hU'.1) (vx_isRefq hN'.1) hU'.2.word hN'.2.word
  have hown' : s'.vm.findClass own = some m.cls := by rw [hvm]; exact hown
  have hins : (Cond.instantiable cls 6).before args s' = true := h _ (by simp [Bundle.ownAtoms])
  obtain ⟨vm₁, cX, kX, hfX, hkX, -, -, X₁, st1⟩ := Y.newCold hexec (own := own) (C := cls) (index := ik) (n := 6) hown' hk' hins hini'
    (g := F0 m pc ls rest) rfl (by rw [hb]; exact d0) (Nat.le_refl _) (Nat.le_refl _)
  generalize hT1 : (T.setVm vm₁).pushCell { cls := cX, slots := kX.instanceTypes.map defaultValue, vm := .none } = T1 at X₁ st1
  have hcat : (Value.ref T.heap.size).category = 1 := rfl
  have hcellA : T1.heap[T.heap.size]? = some (freshCell cX kX) := by rw [← hT1]; exact State.heap_pushCell_size _ _
  have d3' : decode c.code (pc + 3) = .ok (.dup, 1) := by rw [hb]; exact d3
  have d4' : decode c.code (pc + 4) = .ok (.ldc_w is, 3) := by rw [hb]; exact d4
  have hstr' : vk_R own is text sa s' := vk_R.warm hW0 hstr
  obtain ⟨U, hsteps, hrun, hend, hW, hsame, ce, hce, hO⟩ := X₁.ctorThrowS hexec htr (own := own) (cls := cls) (names := names) (ic := ic) hown' hcls hnames h (fun x hx => nomatch hx) hfX hkX hcellA (by rw [hhp, hT]; exact Nat.le_refl _) (msg := .ref sa) rfl
    (g := { method := m, pc := pc + 7, locals := ls, stack := .ref sa :: .ref T.heap.size :: .ref T.heap.size :: rest, locked := none }) rfl hsize rfl rfl (rest := rest) rfl
    (by rw [hb]; exact d7) (by rw [hb]; exact d10) hout hRframes (by simp only [List.map_cons, List.sum_cons, hcat]; omega) hlocks
  obtain ⟨f1, f2⟩ := vx_frame hsame
  rw [hhp] at f1 f2
  have hWs : s.WarmedH U.vm := State.WarmedH.trans hW0 hW
  have hcl : s.vm.findClass cls = some ce.cls := by
    have h9 := hO.cls
    rw [hvm] at h9
    exact h9
  have hall : s.sameButNew ({ U with vm := s.vm } : State) locs mc ms := by
    subst hA
    obtain ⟨e1, e2⟩ := hsame
    rw [State.setFrames_setFrames] at e1
    have h2 : (T.setVm s.vm).sameButNew ({ U with vm := s.vm } : State) [] (0 + 1) (0 + 6) := ⟨e1, e2⟩
    have h3 := X.same.trans h2
    rw [List.append_nil] at h3
    exact h3.mono hc hs
  refine ⟨U, ?_, .threw T.heap.size, hrun, hend, Or.inr ⟨T.heap.size, rfl, cls, ce, locs, hx U hWs.alike f1 (fun q hq => f2 q hq (fun z hz => nomatch hz)), hce, hO.vm, hcl, hWs, hall, hf⟩⟩
  refine st1 _ ?_
  show Steps p.tables e below (T1.setTop { method := m, pc := pc + 3, locals := ls, stack := .ref T.heap.size :: rest, locked := none }) _
  jvm_step X₁.here [X₁.here.top, hexec, d3', Value.category]
  exact X₁.ldcStringW hexec (own := own) (text := text) (index := is) (a := sa) hown' hstr'.1 hstr'.2
    (g := { method := m, pc := pc + 4, locals := ls, stack := .ref T.heap.size :: .ref T.heap.size :: rest, locked := none }) rfl d4' _ hsteps
end Ends
section Bodies
variable {l : Launch}
theorem vx_ofW {y : MethodName} {ws ws' : List Cond} {rm : Room} {Pc : Array Value → State → Prop} {Qc : Array Value → State → Outcome → State → Prop} {XC : String → State → State → Prop} {mc ms : Nat} {free : Addr → Prop} {cc : ByteArray} {maxL : Nat} {ret : Option FieldType}
    (hy : plainName y.cls = true) (hw : ws = Cond.code y cc maxL ret :: ws')
    (body : ∀ p e s m args below meth c s₁, BodyLoose p l y (headSpec ws rm) cc maxL ret e s m args below meth c s₁ → c.maxLocals = maxL → (∀ x ∈ c.exceptionTable.toList, False) → Pc args s →
      W p l e (headSpec ws rm).room s m args below meth c s.heap [] 0 0 (vx_MQ below Qc XC args s mc ms free) (entryFrame m args maxL)) : vx_Met l y ws rm Pc Qc XC mc ms free := by
  refine MetFree.of_bodyS (code := cc) (maxLocals := maxL) (ret := ret) hy ?_ ?_
  · intro args s m h hn
    obtain ⟨meth, c, h1, h2, h3, h4, h5, h6, -, -⟩ := Cond.code_spec hn (atoms_spec (ws := ws) h _ (by rw [hw]; exact List.mem_cons_self))
    exact ⟨meth, c, h1, h2, h3, h4, h5, h6⟩
  · intro p e s m args below meth c s₁ B hml hP _
    have hh0 : s₁.heap = s.heap := by rw [B.state]; rfl
    have ht : ∀ x ∈ c.exceptionTable.toList, False := by
      obtain ⟨meth9, c9, h1, h2, -, -, -, -, h7, -⟩ := Cond.code_spec B.named (atoms_spec (ws := ws) B.pre _ (by rw [hw]; exact List.mem_cons_self))
      cases Option.some.inj (h1.symm.trans B.method)
      cases Option.some.inj (h2.symm.trans (Stand.of_body B).code)
      intro x hx
      rw [Array.isEmpty_iff.mp h7] at hx
      cases hx
    obtain ⟨t, a1, o, b1, b2, b3⟩ := body p e s m args below meth c s₁ B hml ht hP s₁ hh0 (Stand.of_body B)
    exact ⟨t, o, a1, b1, b2, b3⟩
/-- the table of a body with handlers -/
theorem vx_table {p : Program} {x y : MethodName} {S : Spec} {cc bytes : ByteArray} {maxL maxL' : Nat} {ret ret' : Option FieldType} {e : Env} {s s₁ : State} {m : MethodId} {args : Array Value} {below : List Frame} {meth : Method} {c : Code} {hh : List (Nat × Nat × Nat × Nat)}
    (B : BodyLoose p l y S cc maxL ret e s m args below meth c s₁) (h : (Cond.codeWith y bytes maxL' ret' hh).before args s = true) : c.exceptionTable.toList = tableOf hh := by
  obtain ⟨m9, meth9, c9, hn9, h1, h2, -, -, h6, -⟩ := Cond.codeWith_spec h
  cases Option.some.inj (hn9.symm.trans B.named)
  cases Option.some.inj (h1.symm.trans B.method)
  cases Option.some.inj (h2.symm.trans (Stand.of_body B).code)
  rw [← h6, table_eq]
end Bodies
end VXA
/-! ===== END ===== -/
/-! ===== BEGIN a static call of a method with an exception table ===== -/
section VXS
variable {p : Program} {l : Launch} {e : Env} {R : Room} {s : State} {m : MethodId} {args : Array Value} {below : List Frame} {meth : Method} {c : Code} {T : State} {H : Heap} {locs : List Loc} {cells slots : Nat}
abbrev vx_CSW (R : Room) (s : State) (args : Array Value) (own : String) (index : Nat) (y : MethodName) (bytes : ByteArray) (maxL : Nat) (ret : Option FieldType) (hh : List (Nat × Nat × Nat × Nat)) (ws : List Cond) (rm : Room) (mc ms n : Nat) : Prop :=
  (rm.cells = mc ∧ rm.slots = ms ∧ rm.frames + 1 ≤ R.frames ∧ 8 + (maxL + 11) + rm.locals ≤ R.locals ∧ (∀ w ∈ ws, ∀ (a' : Array Value) (U : State), s.WarmedH U.vm → w.before a' U = true) ∧ Cond.codeWith y bytes maxL ret hh ∈ ws) ∧
  (Cond.codeWith y bytes maxL ret hh).before args s = true ∧ (Cond.initialized y.cls).before args s = true ∧ (y.cls ≠ "java/lang/invoke/MethodHandle" ∧ y.cls ≠ "java/lang/invoke/VarHandle") ∧
  (∀ sig, parseMethodDescriptor y.desc = some sig → n = sig.parameters.length) ∧ (Cond.methodLink own index y).before args s = true ∧ (Cond.static y).before args s = true
theorem vx_cwSW {own : String} {index maxL mc ms : Nat} {y : MethodName} {bytes : ByteArray} {ret : Option FieldType} {hh : List (Nat × Nat × Nat × Nat)} {Ts ws ws' : List Cond} {rm : Room} (n : Nat) (ht : ∀ w ∈ Ts, w.before args s = true) (hT : GoodIn Ts (va_wsS own index y ws)) (hw : ws = Cond.codeWith y bytes maxL ret hh :: ws') (hrc : rm.cells = mc) (hrs : rm.slots = ms)
    (hd : y.cls ≠ "java/lang/invoke/MethodHandle" ∧ y.cls ≠ "java/lang/invoke/VarHandle" ∧ (parseMethodDescriptor y.desc).map (fun d => d.parameters.length) = some n) (hR : rm.frames + 1 ≤ R.frames ∧ 8 + (maxL + 11) + rm.locals ≤ R.locals) :
    vx_CSW R s args own index y bytes maxL ret hh ws rm mc ms n := by
  have ok : ∀ w ∈ va_wsS own index y ws, w.before args s = true := fun w h => ht w (hT w h).1
  have hG : GoodIn Ts ws := fun w h => hT w (by unfold va_wsS; exact List.mem_append_right _ h)
  have hc : Cond.codeWith y bytes maxL ret hh ∈ ws := by rw [hw]; exact List.mem_cons_self
  refine ⟨⟨hrc, hrs, hR.1, hR.2, pay_in ht hG, hc⟩, ht _ (hG _ hc).1, ok _ (by simp [va_wsS]), ⟨hd.1, hd.2.1⟩, fun sig h => ?_, ok _ (by simp [va_wsS]), ok _ (by simp [va_wsS])⟩
  have h2 := hd.2.2
  rw [h] at h2
  exact (Option.some.inj h2).symm
theorem vx_callSW (X : Stand p l e R s m args below meth c T locs cells slots) (hexec : p.tables.exec = Jvm.exec) {own : String} {index : Nat} {y : MethodName} {bytes : ByteArray} {maxL : Nat} {ret : Option FieldType} {hh : List (Nat × Nat × Nat × Nat)}
    (hown : s.vm.findClass own = some m.cls) (hlink : (Cond.methodLink own index y).before args s = true) (hstat : (Cond.static y).before args s = true) (hinit : (Cond.initialized y.cls).before args s = true)
    (hcode : (Cond.codeWith y bytes maxL ret hh).before args s = true) (hy : y.cls ≠ "java/lang/invoke/MethodHandle" ∧ y.cls ≠ "java/lang/invoke/VarHandle")
    {W9 : Nat} {Pre : Pt → Array Value → Prop} {Post : Pt → Array Value → Option Value → Pt → Prop} (hK : Back l R p e below s args y 3 W9 Pre Post)
    {g : JFrame} (hg : g.method = m) (hsize : g.locals.size = c.maxLocals) {argsL rest : List Value} (hlen : ∀ sig, parseMethodDescriptor y.desc = some sig → argsL.length = sig.parameters.length)
    (hstack : g.stack = argsL.reverse ++ rest) (hW : 2 * g.monitorRoom + (rest.map fun v => v.category).sum ≤ W9) (hdg : decode c.code g.pc = .ok (.invokestatic index, 3))
    (hpre : ∀ vm₁, s.WarmedH vm₁ → Pre ⟨T.setVm vm₁, locs, cells, slots⟩ argsL.toArray) :
    ∃ (v : Option Value) (vm₁ : Vm) (B : Pt), s.WarmedH vm₁ ∧ Stand p l e R s m args below meth c B.U B.locs B.cells B.slots ∧ Post ⟨T.setVm vm₁, locs, cells, slots⟩ argsL.toArray v B ∧
      ∀ target, Steps p.tables e below (B.U.setTop { g with pc := g.pc + 3, stack := v.toList ++ rest }) target → Steps p.tables e below (T.setTop g) target := by
  obtain ⟨mk, methM, cM, hnamed, hmethM, -, -, -, -, -, -, hsigM⟩ := Cond.codeWith_spec hcode
  have hstatic : methM.isStatic = true := Cond.static_spec hnamed hmethM hstat
  obtain ⟨kP, hkP, -⟩ := className_of_methodNamed hnamed
  have hinitP : kP.init = .initialized := Cond.initialized_spec (findClass_of_methodNamed hnamed) hkP hinit
  obtain ⟨vm₁, X₁, hstep₁⟩ := X.invokestatic hexec hown hlink hnamed hmethM hstatic hkP hinitP hy (g := g) hg (argsL := argsL) (rest := rest) (hlen _ hsigM) hstack hdg
  obtain ⟨v, B, X', hpost, hsteps⟩ := hK m meth c ⟨T.setVm vm₁, locs, cells, slots⟩ { g with stack := rest } (.invokestatic index) mk argsL.toArray X₁ hg hsize hdg hW (X₁.named hnamed) (hpre vm₁ X₁.warmed)
  exact ⟨v, vm₁, B, X₁.warmed, X', hpost, fun target h => hstep₁ _ fun acts => by rw [doInvoke_state]; exact hsteps.trans h⟩
theorem vx_runSW {y : MethodName} {bytes cc : ByteArray} {maxL nL mc ms n index : Nat} {ret : Option FieldType} {hh : List (Nat × Nat × Nat × Nat)} {ws : List Cond} {rm : Room} {Pc : Array Value → State → Prop} {Qc : Array Value → State → Outcome → State → Prop} {free : Addr → Prop} {Ts : List Cond} {own : String} {As rest : List Value} {g : JFrame}
    (S : CallFix p m c cc nL s args Ts own) (hM : Met l y ws rm Pc Qc mc ms free) (cw : vx_CSW R s args own index y bytes maxL ret hh ws rm mc ms n) (hp : PreS s H Pc As)
    (hg : g.method = m) (hn : As.length = n) (hsize : g.locals.size = nL) (hstack : g.stack = As.reverse ++ rest) (hW : 2 * g.monitorRoom + (rest.map fun v => v.category).sum ≤ 8) (hdg : decode cc g.pc = .ok (.invokestatic index, 3)) (hf : cells + mc ≤ R.cells ∧ slots + ms ≤ R.slots) :
    va_Run p l e R s m args below meth c H locs cells slots mc ms g rest (Qc As.toArray) (free) := by
  obtain ⟨⟨hrc, hrs, hfr, hlo, hws, hcw⟩, hcode, hini, hy, hlen, hl, hstt⟩ := cw
  have hK : Back l R p e below s args y 3 8 (PreOf R mc ms Pc) (PostOf Qc mc ms free) := va_backW (hh := hh) (bytes := bytes) (maxL := maxL) (ret := ret) hM hp.1 hrc hrs hfr hlo hws hcw (fun a' U hW => word_at hW (Or.inl (by first | rfl | simp [Cond.onTables, Cond.keeps, Cond.steady])) hini)
  obtain ⟨hx, hb, hml, ho, -⟩ := S
  intro T hT X
  obtain ⟨v, vm₁, ⟨U', l2, c2, s2⟩, hW₁, X', ⟨g', mk, t, L, e1, e2, hq, h1, hL, h2, h3⟩, st⟩ := vx_callSW X hx (hh := hh) (bytes := bytes) (maxL := maxL) (ret := ret) ho hl hstt hini hcode hy hK hg (hsize.trans hml.symm) (argsL := As) (rest := rest) (fun sig h => hn.trans (hlen sig h)) hstack hW (by rw [hb]; exact hdg)
    (fun vm₁ hW₁ => ⟨hf.1, hf.2, hp.2 (T.setVm vm₁) hT hW₁⟩)
  dsimp only [Pt.U, Pt.locs, Pt.cells, Pt.slots] at X' e1 e2 h1 h2 h3 st
  subst h1; subst h2; subst h3
  exact ⟨v, (T.setVm vm₁).calling g' mk As.toArray, t, U', L, hT, X', hL, e1, e2, hq, st⟩
/-- a thing of a world lies in the heap -/
theorem vx_lt {D : va_G} {cl : List vw_C} {ws : va_W} {H1 : Heap} (h : va_P D cl ws H1) {k : Nat} {q : Nat × va_E} (hk : ws[k]? = some q) : q.1 < H1.size := (h k q hk).lt
end VXS
/-! ===== END ===== -/
/-! ===== BEGIN methods with a table of their own: called by a name, returning or throwing ===== -/
section VXH
/-! vx_backW, vx_callVX, vx_callSX, vx_callVW, vx_runVW, vx_runVX, vx_runSX, vx_ofWH follow the same proofs as their sisters above (Free/Laws.lean, Shelf42/LK1.lean); vx_outP calls Shelf42/NT130.lean (outThrough). -/
section
variable {l : Launch} {R : Room} {p : Program} {e : Env} {below : List Frame} {s : State} {sargs : Array Value} {y : MethodName} {len W9 : Nat}
theorem vx_backW {ws : List Cond} {rm : Room} {Pc : Array Value → State → Prop} {Qc : Array Value → State → Outcome → State → Prop} {XC : String → State → State → Prop} {mc ms : Nat} {free : Addr → Prop} {bytes : ByteArray} {maxL : Nat} {ret : Option FieldType} {hh : List (Nat × Nat × Nat × Nat)}
    (hM : vx_Met l y ws rm Pc Qc XC mc ms free) (hblind : FrameBlind Pc) (hrc : rm.cells = mc) (hrs : rm.slots = ms)
    (hframes : rm.frames + 1 ≤ R.frames) (hlocals : W9 + (maxL + 11) + rm.locals ≤ R.locals)
    (hws : ∀ w ∈ ws, ∀ a' U, s.WarmedH U.vm → w.before a' U = true) (hcode : Cond.codeWith y bytes maxL ret hh ∈ ws) (hinit : ∀ a' U, s.WarmedH U.vm → (Cond.initialized y.cls).before a' U = true) :
    vx_Back l R p e below s sargs y len W9 (PreOf R mc ms Pc) (PostOf Qc mc ms free) (vx_Post XC mc ms free) := by
  intro m meth c A g ig mk a X hg hsize hdg hW hn hp
  have h1 : (headSpec ws rm).pre.before a A.U = true := atoms_intro fun w hw => hws w hw _ _ X.warmed
  have h2 : (Cond.codeWith y bytes maxL ret hh).before a A.U = true := hws _ hcode _ _ X.warmed
  have h3 : (Cond.initialized y.cls).before a A.U = true := hinit _ _ X.warmed
  have h4 : A.cells + (headSpec ws rm).room.cells ≤ R.cells := by rw [show (headSpec ws rm).room.cells = mc from hrc]; exact hp.1
  have h5 : A.slots + (headSpec ws rm).room.slots ≤ R.slots := by rw [show (headSpec ws rm).room.slots = ms from hrs]; exact hp.2.1
  have hPc : Pc a (A.U.calling g mk a) := hblind _ _ _ _ hp.2.2
  obtain ⟨U, Ls, c0, s0⟩ := A
  dsimp only [Pt.U, Pt.locs, Pt.cells, Pt.slots] at h1 h2 h3 h4 h5 X hn hPc ⊢
  obtain ⟨m9, methY, cY, hn9, hmY, hcY, -, hlY, -⟩ := Cond.codeWith_spec h2
  cases Option.some.inj (hn9.symm.trans hn)
  obtain ⟨kY, hkY, -⟩ := className_of_methodNamed hn
  have hinitY : kY.init = .initialized := Cond.initialized_spec (findClass_of_methodNamed hn) hkY h3
  have h : At U g.method c below := by rw [hg]; exact X.here
  have hlocals9 : W9 + (maxL + 11) + (headSpec ws rm).room.locals ≤ R.locals := hlocals
  have happ : (headSpec ws rm).appliesLoose y e.platform (U.calling g mk a) = true :=
    Spec.appliesLoose_calling (g := g) h hdg hn hkY hinitY
      (X.room_calling (g := g) (R' := (headSpec ws rm).room) hsize hmY hcY hframes (by rw [hlY]; omega) h4 h5) h1
  obtain ⟨mid, hmid⟩ := h.above
  have hfr : (U.setTop g).frames = (.java g :: mid) ++ below := by rw [State.frames_setTop' g h.top, hmid]; rfl
  obtain ⟨o, s₂, hsteps, -, hend, hq⟩ := Steps.callFree hM p X.admits X.cas X.clock (acts := []) hfr happ hPc trivial
  have hq' : vx_Q Qc XC mc ms free a (U.calling g mk a) o s₂ := hq
  rw [State.frames_setTop' g h.top] at hend
  obtain ⟨g₀, hg0⟩ := Option.isSome_iff_exists.mp h.top
  obtain ⟨r, hr⟩ := State.topJava?_eq_some.mp hg0
  have hr' : (({ U with heap := s₂.heap, slotsUsed := s₂.slotsUsed } : State).setVm s₂.vm).frames = .java g₀ :: r := hr
  rcases hq' with ⟨hqc, L, hfe, hL⟩ | ⟨q, rfl, E, ce, L, hx, hce, hcv, hcl, hW₂, hsm, hL⟩
  · obtain ⟨⟨v, rfl⟩, hW₂, e2, q2, q3, q4, q5, q6⟩ := id hfe
    have e3 : s₂ = ({ (U.calling g mk a).setFrames s₂.frames with heap := s₂.heap, slotsUsed := s₂.slotsUsed } : State).setVm s₂.vm := by
      have : s₂ = ({ s₂ with vm := (U.calling g mk a).vm } : State).setVm s₂.vm := rfl
      rw [e2] at this
      exact this
    obtain ⟨c₂, i₂, len₂, hc₂, hd₂, hf₂⟩ := hend
    have hW' : U.WarmedH s₂.vm := hW₂
    have hcc : c₂ = c := by
      have h1 : s₂.code? g.method = U.code? g.method := by
        rw [State.code?_eq, State.code?_eq, hW'.alike.method?]
      exact Option.some.inj (hc₂.symm.trans (h1.trans h.code))
    subst hcc
    have hlen : len₂ = len := by rw [hdg] at hd₂; cases hd₂; rfl
    subst hlen
    have hs₂ : s₂ = (({ U with heap := s₂.heap, slotsUsed := s₂.slotsUsed } : State).setVm s₂.vm).setTop { g with pc := g.pc + len₂, stack := v.toList ++ g.stack } := by
      refine e3.trans ?_
      rw [hf₂, State.calling_eq h.top, State.setFrames_setFrames, State.setTop_of_frames _ hr', hr]
      rfl
    have hsame : U.sameButNew ({ U with heap := s₂.heap, slotsUsed := s₂.slotsUsed } : State) L mc ms := by
      refine ⟨?_, q2, q3, q4, q5, q6⟩
      obtain ⟨t, ht, -⟩ := State.frames_cons hr
      show ({ U with heap := s₂.heap, slotsUsed := s₂.slotsUsed } : State) = { U.setFrames U.frames with heap := s₂.heap, slotsUsed := s₂.slotsUsed }
      rw [State.setFrames_self ht]
    subst hg
    refine Or.inl ⟨v, ⟨(({ U with heap := s₂.heap, slotsUsed := s₂.slotsUsed } : State).setVm s₂.vm), Ls ++ L, c0 + mc, s0 + ms⟩,
      ⟨X.admits, X.cas, X.clock, X.frames, X.room, X.hears, X.method, X.code, (X.here.setHeapUsed s₂.heap s₂.slotsUsed).setVm hW'.alike, X.tail, State.WarmedH.trans X.warmed hW', X.limits, X.bytes, X.same.trans (hsame.setVm s.vm)⟩,
      ⟨g, mk, s₂, L, rfl, rfl, hqc, rfl, hL, rfl, rfl⟩, ?_⟩
    show Steps p.tables e below _ ((({ U with heap := s₂.heap, slotsUsed := s₂.slotsUsed } : State).setVm s₂.vm).setTop { g with pc := g.pc + len₂, stack := v.toList ++ g.stack })
    rw [← hs₂]
    exact hsteps
  · obtain ⟨e2, q2, q3, q4, q5, q6⟩ := id hsm
    have e3 : s₂ = ({ (U.calling g mk a).setFrames s₂.frames with heap := s₂.heap, slotsUsed := s₂.slotsUsed } : State).setVm s₂.vm := by
      have : s₂ = ({ s₂ with vm := (U.calling g mk a).vm } : State).setVm s₂.vm := rfl
      rw [e2] at this
      exact this
    have hf₂ : s₂.frames = .throwing q :: .java g :: U.frames.tail := hend
    have hW' : U.WarmedH s₂.vm := hW₂
    have hs₂ : s₂ = ((({ U with heap := s₂.heap, slotsUsed := s₂.slotsUsed } : State).setVm s₂.vm).setTop g).pushFrame (.throwing q) := by
      refine e3.trans ?_
      rw [hf₂, State.calling_eq h.top, State.setFrames_setFrames, State.pushFrame, State.frames_setTop _ hr', State.setTop_of_frames _ hr', State.setFrames_setFrames, hr]
      rfl
    have hsame : U.sameButNew ({ U with heap := s₂.heap, slotsUsed := s₂.slotsUsed } : State) L mc ms := by
      refine ⟨?_, q2, q3, q4, q5, q6⟩
      obtain ⟨t, ht, -⟩ := State.frames_cons hr
      show ({ U with heap := s₂.heap, slotsUsed := s₂.slotsUsed } : State) = { U.setFrames U.frames with heap := s₂.heap, slotsUsed := s₂.slotsUsed }
      rw [State.setFrames_self ht]
    subst hg
    refine Or.inr ⟨q, ⟨(({ U with heap := s₂.heap, slotsUsed := s₂.slotsUsed } : State).setVm s₂.vm), Ls ++ L, c0 + mc, s0 + ms⟩,
      ⟨X.admits, X.cas, X.clock, X.frames, X.room, X.hears, X.method, X.code, (X.here.setHeapUsed s₂.heap s₂.slotsUsed).setVm hW'.alike, X.tail, State.WarmedH.trans X.warmed hW', X.limits, X.bytes, X.same.trans (hsame.setVm s.vm)⟩,
      ⟨g, mk, s₂, L, E, ce, rfl, rfl, hx, hce, hcv, hcl, rfl, hL, rfl, rfl⟩, ?_⟩
    show Steps p.tables e below _ (((({ U with heap := s₂.heap, slotsUsed := s₂.slotsUsed } : State).setVm s₂.vm).setTop g).pushFrame (.throwing q))
    rw [← hs₂]
    exact hsteps
end
variable {p : Program} {l : Launch} {e : Env} {R : Room} {s : State} {m : MethodId} {args : Array Value} {below : List Frame} {meth : Method} {c : Code} {T : State} {H : Heap} {locs : List Loc} {cells slots : Nat}
theorem vx_callVX (X : Stand p l e R s m args below meth c T locs cells slots) (hexec : p.tables.exec = Jvm.exec) {own C : String} {index : Nat} {y : MethodName} {bytes : ByteArray} {maxL : Nat} {ret : Option FieldType} {hh : List (Nat × Nat × Nat × Nat)}
    (hown : s.vm.findClass own = some m.cls) (hlink : (Cond.methodLink own index y).before args s = true) (hinst : (Cond.instanceMethod y).before args s = true) (hsel : (Cond.selects C y y).before args s = true)
    (hcode : (Cond.codeWith y bytes maxL ret hh).before args s = true) (hy : y.cls ≠ "java/lang/invoke/MethodHandle" ∧ y.cls ≠ "java/lang/invoke/VarHandle")
    {W9 : Nat} {Pre : Pt → Array Value → Prop} {Post : Pt → Array Value → Option Value → Pt → Prop} {PostX : Pt → Array Value → Addr → Pt → Prop} (hK : vx_Back l R p e below s args y 3 W9 Pre Post PostX)
    {b : Addr} {cellB : Cell} (hcell : T.heap[b]? = some cellB) (hobj : cellB.vm.isStatics = false) (hcls : s.vm.findClass C = some cellB.cls)
    {g : JFrame} (hg : g.method = m) (hsize : g.locals.size = c.maxLocals) {argsL rest : List Value} (hlen : ∀ sig, parseMethodDescriptor y.desc = some sig → argsL.length = sig.parameters.length)
    (hstack : g.stack = argsL.reverse ++ .ref b :: rest) (hW : 2 * g.monitorRoom + (rest.map fun v => v.category).sum ≤ W9) (hdg : decode c.code g.pc = .ok (.invokevirtual index, 3))
    (hpre : ∀ vm₁, s.WarmedH vm₁ → Pre ⟨T.setVm vm₁, locs, cells, slots⟩ (Value.ref b :: argsL).toArray) :
    (∃ (v : Option Value) (vm₁ : Vm) (B : Pt), s.WarmedH vm₁ ∧ Stand p l e R s m args below meth c B.U B.locs B.cells B.slots ∧ Post ⟨T.setVm vm₁, locs, cells, slots⟩ (Value.ref b :: argsL).toArray v B ∧
      ∀ target, Steps p.tables e below (B.U.setTop { g with pc := g.pc + 3, stack := v.toList ++ rest }) target → Steps p.tables e below (T.setTop g) target) ∨
    (∃ (q : Addr) (vm₁ : Vm) (B : Pt), s.WarmedH vm₁ ∧ Stand p l e R s m args below meth c B.U B.locs B.cells B.slots ∧ PostX ⟨T.setVm vm₁, locs, cells, slots⟩ (Value.ref b :: argsL).toArray q B ∧
      Steps p.tables e below (T.setTop g) ((B.U.setTop { g with stack := rest }).pushFrame (.throwing q))) := by
  obtain ⟨mk, methM, hnamed, hmethM, hstM, habM⟩ := Cond.instanceMethod_spec hinst
  obtain ⟨m8, methM', cM, hn8, hmethM', -, -, -, -, -, -, hsigM⟩ := Cond.codeWith_spec hcode
  cases Option.some.inj (hn8.symm.trans hnamed)
  cases hmethM.symm.trans hmethM'
  obtain ⟨c2, r2, m2, q1, q2, q3, q4, kP, hkP, hkPi⟩ := Cond.selects_spec hsel
  cases hcls.symm.trans q1
  cases (State.methodFound?_of_named hnamed hy).symm.trans q2
  cases hnamed.symm.trans q3
  have hselP : selectMethod e.platform s.vm cellB.cls mk = .method mk := by rw [Launch.admits_selectMethod X.admits]; exact q4
  obtain ⟨vm₁, X₁, hstep₁⟩ := X.invokevirtual hexec hown hlink hnamed hmethM hstM hkP hkPi hy (a := b) (cell := cellB) hcell
    (fun z h => by rw [h] at hobj; cases hobj) hselP hmethM habM hkP hkPi (g := g) hg (argsL := argsL) (rest := rest) (hlen _ hsigM) hstack hdg
  rcases hK m meth c ⟨T.setVm vm₁, locs, cells, slots⟩ { g with stack := rest } (.invokevirtual index) mk (Value.ref b :: argsL).toArray X₁ hg hsize hdg hW (X₁.named hnamed) (hpre vm₁ X₁.warmed) with ⟨v, B, X', hpost, hsteps⟩ | ⟨q, B, X', hpost, hsteps⟩
  · exact Or.inl ⟨v, vm₁, B, X₁.warmed, X', hpost, fun target h => hstep₁ _ fun acts => by rw [doInvoke_state]; exact hsteps.trans h⟩
  · exact Or.inr ⟨q, vm₁, B, X₁.warmed, X', hpost, hstep₁ _ fun acts => by rw [doInvoke_state]; exact hsteps⟩
theorem vx_callSX (X : Stand p l e R s m args below meth c T locs cells slots) (hexec : p.tables.exec = Jvm.exec) {own : String} {index : Nat} {y : MethodName} {bytes : ByteArray} {maxL : Nat} {ret : Option FieldType} {hh : List (Nat × Nat × Nat × Nat)}
    (hown : s.vm.findClass own = some m.cls) (hlink : (Cond.methodLink own index y).before args s = true) (hstat : (Cond.static y).before args s = true) (hinit : (Cond.initialized y.cls).before args s = true)
    (hcode : (Cond.codeWith y bytes maxL ret hh).before args s = true) (hy : y.cls ≠ "java/lang/invoke/MethodHandle" ∧ y.cls ≠ "java/lang/invoke/VarHandle")
    {W9 : Nat} {Pre : Pt → Array Value → Prop} {Post : Pt → Array Value → Option Value → Pt → Prop} {PostX : Pt → Array Value → Addr → Pt → Prop} (hK : vx_Back l R p e below s args y 3 W9 Pre Post PostX)
    {g : JFrame} (hg : g.method = m) (hsize : g.locals.size = c.maxLocals) {argsL rest : List Value} (hlen : ∀ sig, parseMethodDescriptor y.desc = some sig → argsL.length = sig.parameters.length)
    (hstack : g.stack = argsL.reverse ++ rest) (hW : 2 * g.monitorRoom + (rest.map fun v => v.category).sum ≤ W9) (hdg : decode c.code g.pc = .ok (.invokestatic index, 3))
    (hpre : ∀ vm₁, s.WarmedH vm₁ → Pre ⟨T.setVm vm₁, locs, cells, slots⟩ argsL.toArray) :
    (∃ (v : Option Value) (vm₁ : Vm) (B : Pt), s.WarmedH vm₁ ∧ Stand p l e R s m args below meth c B.U B.locs B.cells B.slots ∧ Post ⟨T.setVm vm₁, locs, cells, slots⟩ argsL.toArray v B ∧
      ∀ target, Steps p.tables e below (B.U.setTop { g with pc := g.pc + 3, stack := v.toList ++ rest }) target → Steps p.tables e below (T.setTop g) target) ∨
    (∃ (q : Addr) (vm₁ : Vm) (B : Pt), s.WarmedH vm₁ ∧ Stand p l e R s m args below meth c B.U B.locs B.cells B.slots ∧ PostX ⟨T.setVm vm₁, locs, cells, slots⟩ argsL.toArray q B ∧
      Steps p.tables e below (T.setTop g) ((B.U.setTop { g with stack := rest }).pushFrame (.throwing q))) := by
  obtain ⟨mk, methM, cM, hnamed, hmethM, -, -, -, -, -, -, hsigM⟩ := Cond.codeWith_spec hcode
  have hstatic : methM.isStatic = true := Cond.static_spec hnamed hmethM hstat
  obtain ⟨kP, hkP, -⟩ := className_of_methodNamed hnamed
  have hinitP : kP.init = .initialized := Cond.initialized_spec (findClass_of_methodNamed hnamed) hkP hinit
  obtain ⟨vm₁, X₁, hstep₁⟩ := X.invokestatic hexec hown hlink hnamed hmethM hstatic hkP hinitP hy (g := g) hg (argsL := argsL) (rest := rest) (hlen _ hsigM) hstack hdg
  rcases hK m meth c ⟨T.setVm vm₁, locs, cells, slots⟩ { g with stack := rest } (.invokestatic index) mk argsL.toArray X₁ hg hsize hdg hW (X₁.named hnamed) (hpre vm₁ X₁.warmed) with ⟨v, B, X', hpost, hsteps⟩ | ⟨q, B, X', hpost, hsteps⟩
  · exact Or.inl ⟨v, vm₁, B, X₁.warmed, X', hpost, fun target h => hstep₁ _ fun acts => by rw [doInvoke_state]; exact hsteps.trans h⟩
  · exact Or.inr ⟨q, vm₁, B, X₁.warmed, X', hpost, hstep₁ _ fun acts => by rw [doInvoke_state]; exact hsteps⟩
theorem vx_callVW (X : Stand p l e R s m args below meth c T locs cells slots) (hexec : p.tables.exec = Jvm.exec) {own C : String} {index : Nat} {y : MethodName} {bytes : ByteArray} {maxL : Nat} {ret : Option FieldType} {hh : List (Nat × Nat × Nat × Nat)}
    (hown : s.vm.findClass own = some m.cls) (hlink : (Cond.methodLink own index y).before args s = true) (hinst : (Cond.instanceMethod y).before args s = true) (hsel : (Cond.selects C y y).before args s = true)
    (hcode : (Cond.codeWith y bytes maxL ret hh).before args s = true) (hy : y.cls ≠ "java/lang/invoke/MethodHandle" ∧ y.cls ≠ "java/lang/invoke/VarHandle")
    {W9 : Nat} {Pre : Pt → Array Value → Prop} {Post : Pt → Array Value → Option Value → Pt → Prop} (hK : Back l R p e below s args y 3 W9 Pre Post)
    {b : Addr} {cellB : Cell} (hcell : T.heap[b]? = some cellB) (hobj : cellB.vm.isStatics = false) (hcls : s.vm.findClass C = some cellB.cls)
    {g : JFrame} (hg : g.method = m) (hsize : g.locals.size = c.maxLocals) {argsL rest : List Value} (hlen : ∀ sig, parseMethodDescriptor y.desc = some sig → argsL.length = sig.parameters.length)
    (hstack : g.stack = argsL.reverse ++ .ref b :: rest) (hW : 2 * g.monitorRoom + (rest.map fun v => v.category).sum ≤ W9) (hdg : decode c.code g.pc = .ok (.invokevirtual index, 3))
    (hpre : ∀ vm₁, s.WarmedH vm₁ → Pre ⟨T.setVm vm₁, locs, cells, slots⟩ (Value.ref b :: argsL).toArray) :
    ∃ (v : Option Value) (vm₁ : Vm) (B : Pt), s.WarmedH vm₁ ∧ Stand p l e R s m args below meth c B.U B.locs B.cells B.slots ∧ Post ⟨T.setVm vm₁, locs, cells, slots⟩ (Value.ref b :: argsL).toArray v B ∧
      ∀ target, Steps p.tables e below (B.U.setTop { g with pc := g.pc + 3, stack := v.toList ++ rest }) target → Steps p.tables e below (T.setTop g) target := by
  obtain ⟨mk, methM, hnamed, hmethM, hstM, habM⟩ := Cond.instanceMethod_spec hinst
  obtain ⟨m8, methM', cM, hn8, hmethM', -, -, -, -, -, -, hsigM⟩ := Cond.codeWith_spec hcode
  cases Option.some.inj (hn8.symm.trans hnamed)
  cases hmethM.symm.trans hmethM'
  obtain ⟨c2, r2, m2, q1, q2, q3, q4, kP, hkP, hkPi⟩ := Cond.selects_spec hsel
  cases hcls.symm.trans q1
  cases (State.methodFound?_of_named hnamed hy).symm.trans q2
  cases hnamed.symm.trans q3
  have hselP : selectMethod e.platform s.vm cellB.cls mk = .method mk := by rw [Launch.admits_selectMethod X.admits]; exact q4
  obtain ⟨vm₁, X₁, hstep₁⟩ := X.invokevirtual hexec hown hlink hnamed hmethM hstM hkP hkPi hy (a := b) (cell := cellB) hcell
    (fun z h => by rw [h] at hobj; cases hobj) hselP hmethM habM hkP hkPi (g := g) hg (argsL := argsL) (rest := rest) (hlen _ hsigM) hstack hdg
  obtain ⟨v, B, X', hpost, hsteps⟩ := hK m meth c ⟨T.setVm vm₁, locs, cells, slots⟩ { g with stack := rest } (.invokevirtual index) mk (Value.ref b :: argsL).toArray X₁ hg hsize hdg hW (X₁.named hnamed) (hpre vm₁ X₁.warmed)
  exact ⟨v, vm₁, B, X₁.warmed, X', hpost, fun target h => hstep₁ _ fun acts => by rw [doInvoke_state]; exact hsteps.trans h⟩
abbrev vx_CVW (R : Room) (s : State) (args : Array Value) (own C : String) (index : Nat) (y : MethodName) (bytes : ByteArray) (maxL : Nat) (ret : Option FieldType) (hh : List (Nat × Nat × Nat × Nat)) (ws : List Cond) (rm : Room) (mc ms n : Nat) : Prop :=
  (rm.cells = mc ∧ rm.slots = ms ∧ rm.frames + 1 ≤ R.frames ∧ 8 + (maxL + 11) + rm.locals ≤ R.locals ∧ (∀ w ∈ ws, ∀ (a' : Array Value) (U : State), s.WarmedH U.vm → w.before a' U = true) ∧ Cond.codeWith y bytes maxL ret hh ∈ ws) ∧
  (Cond.codeWith y bytes maxL ret hh).before args s = true ∧ (Cond.initialized y.cls).before args s = true ∧ (y.cls ≠ "java/lang/invoke/MethodHandle" ∧ y.cls ≠ "java/lang/invoke/VarHandle") ∧
  (∀ sig, parseMethodDescriptor y.desc = some sig → n = sig.parameters.length) ∧ (Cond.methodLink own index y).before args s = true ∧ (Cond.instanceMethod y).before args s = true ∧ (Cond.selects C y y).before args s = true
theorem vx_cwVW {own C : String} {index maxL mc ms : Nat} {y : MethodName} {bytes : ByteArray} {ret : Option FieldType} {hh : List (Nat × Nat × Nat × Nat)} {Ts ws ws' : List Cond} {rm : Room} (n : Nat) (ht : ∀ w ∈ Ts, w.before args s = true) (hT : GoodIn Ts (wsV own index C y ws)) (hw : ws = Cond.codeWith y bytes maxL ret hh :: ws') (hrc : rm.cells = mc) (hrs : rm.slots = ms)
    (hd : y.cls = C ∧ y.cls ≠ "java/lang/invoke/MethodHandle" ∧ y.cls ≠ "java/lang/invoke/VarHandle" ∧ (parseMethodDescriptor y.desc).map (fun d => d.parameters.length) = some n) (hR : rm.frames + 1 ≤ R.frames ∧ 8 + (maxL + 11) + rm.locals ≤ R.locals) :
    vx_CVW R s args own C index y bytes maxL ret hh ws rm mc ms n := by
  obtain ⟨hC, hd⟩ := hd
  subst hC
  have ok : ∀ w ∈ wsV own index y.cls y ws, w.before args s = true := fun w h => ht w (hT w h).1
  have hG : GoodIn Ts ws := fun w h => hT w (by unfold wsV; exact List.mem_append_right _ h)
  have hc : Cond.codeWith y bytes maxL ret hh ∈ ws := by rw [hw]; exact List.mem_cons_self
  refine ⟨⟨hrc, hrs, hR.1, hR.2, pay_in ht hG, hc⟩, ht _ (hG _ hc).1, ok _ (by simp [wsV]), ⟨hd.1, hd.2.1⟩, fun sig h => ?_, ok _ (by simp [wsV]), ok _ (by simp [wsV]), ok _ (by simp [wsV])⟩
  have h2 := hd.2.2
  rw [h] at h2
  exact (Option.some.inj h2).symm
theorem vx_runVW {y : MethodName} {bytes cc : ByteArray} {maxL nL mc ms n index : Nat} {ret : Option FieldType} {hh : List (Nat × Nat × Nat × Nat)} {ws : List Cond} {rm : Room} {Pc : Array Value → State → Prop} {Qc : Array Value → State → Outcome → State → Prop} {free : Addr → Prop} {Ts : List Cond} {own C : String} {b : Addr} {As rest : List Value} {g : JFrame}
    (S : CallFix p m c cc nL s args Ts own) (hM : Met l y ws rm Pc Qc mc ms free) (cw : vx_CVW R s args own C index y bytes maxL ret hh ws rm mc ms n) (hp : PreV s H C b Pc As)
    (hg : g.method = m) (hn : As.length = n) (hsize : g.locals.size = nL) (hstack : g.stack = As.reverse ++ .ref b :: rest) (hW : 2 * g.monitorRoom + (rest.map fun v => v.category).sum ≤ 8) (hdg : decode cc g.pc = .ok (.invokevirtual index, 3)) (hf : cells + mc ≤ R.cells ∧ slots + ms ≤ R.slots) :
    va_Run p l e R s m args below meth c H locs cells slots mc ms g rest (Qc (Value.ref b :: As).toArray) free := by
  obtain ⟨⟨hrc, hrs, hfr, hlo, hws, hcw⟩, hcode, hini, hy, hlen, hl, hin, hse⟩ := cw
  have hK : Back l R p e below s args y 3 8 (PreOf R mc ms Pc) (PostOf Qc mc ms free) := va_backW (hh := hh) (bytes := bytes) (maxL := maxL) (ret := ret) hM hp.1 hrc hrs hfr hlo hws hcw (fun a' U hW => word_at hW (Or.inl (by first | rfl | simp [Cond.onTables, Cond.keeps, Cond.steady])) hini)
  obtain ⟨hx, hb, hml, ho, -⟩ := S
  obtain ⟨-, ⟨cellB, hcB, hoB, hclB⟩, hPc⟩ := hp
  intro T hT X
  obtain ⟨v, vm₁, ⟨U', l2, c2, s2⟩, hW₁, X', ⟨g', mk, t, L, e1, e2, hq, h1, hL, h2, h3⟩, st⟩ := vx_callVW X hx (C := C) (hh := hh) (bytes := bytes) (maxL := maxL) (ret := ret) ho hl hin hse hcode hy hK (by rw [hT]; exact hcB) hoB hclB hg (hsize.trans hml.symm) (argsL := As) (rest := rest) (fun sig h => hn.trans (hlen sig h)) hstack hW (by rw [hb]; exact hdg)
    (fun vm₁ hW₁ => ⟨hf.1, hf.2, hPc (T.setVm vm₁) hT hW₁⟩)
  dsimp only [Pt.U, Pt.locs, Pt.cells, Pt.slots] at X' e1 e2 h1 h2 h3 st
  subst h1; subst h2; subst h3
  exact ⟨v, (T.setVm vm₁).calling g' mk (Value.ref b :: As).toArray, t, U', L, hT, X', hL, e1, e2, hq, st⟩
section
variable {y : MethodName} {bytes cc : ByteArray} {maxL nL mc ms n index : Nat} {ret : Option FieldType} {ws : List Cond} {rm : Room} {Pc : Array Value → State → Prop} {Qc : Array Value → State → Outcome → State → Prop} {XC : String → State → State → Prop} {free : Addr → Prop} {Ts : List Cond} {own C : String} {b : Addr} {As rest : List Value} {g : JFrame}
theorem vx_runVX {hh : List (Nat × Nat × Nat × Nat)} (S : CallFix p m c cc nL s args Ts own) (hM : vx_Met l y ws rm Pc Qc XC mc ms free) (cw : vx_CVW R s args own C index y bytes maxL ret hh ws rm mc ms n) (hp : PreV s H C b Pc As)
    (hg : g.method = m) (hn : As.length = n) (hsize : g.locals.size = nL) (hstack : g.stack = As.reverse ++ .ref b :: rest) (hW : 2 * g.monitorRoom + (rest.map fun v => v.category).sum ≤ 8) (hdg : decode cc g.pc = .ok (.invokevirtual index, 3)) (hf : cells + mc ≤ R.cells ∧ slots + ms ≤ R.slots) :
    vx_Run p l e R s m args below meth c H locs cells slots mc ms g rest (Qc (Value.ref b :: As).toArray) XC free := by
  obtain ⟨⟨hrc, hrs, hfr, hlo, hws, hcw⟩, hcode, hini, hy, hlen, hl, hin, hse⟩ := cw
  have hK : vx_Back l R p e below s args y 3 8 (PreOf R mc ms Pc) (PostOf Qc mc ms free) (vx_Post XC mc ms free) := vx_backW (hh := hh) (bytes := bytes) (maxL := maxL) (ret := ret) hM hp.1 hrc hrs hfr hlo hws hcw (fun a' U hW => word_at hW (Or.inl (by first | rfl | simp [Cond.onTables, Cond.keeps, Cond.steady])) hini)
  obtain ⟨hx, hb, hml, ho, -⟩ := S
  obtain ⟨-, ⟨cellB, hcB, hoB, hclB⟩, hPc⟩ := hp
  intro T hT X
  rcases vx_callVX X hx (C := C) (hh := hh) (bytes := bytes) (maxL := maxL) (ret := ret) ho hl hin hse hcode hy hK (by rw [hT]; exact hcB) hoB hclB hg (hsize.trans hml.symm) (argsL := As) (rest := rest) (fun sig h => hn.trans (hlen sig h)) hstack hW (by rw [hb]; exact hdg)
    (fun vm₁ hW₁ => ⟨hf.1, hf.2, hPc (T.setVm vm₁) hT hW₁⟩) with ⟨v, vm₁, ⟨U', l2, c2, s2⟩, hW₁, X', ⟨g', mk, t, L, e1, e2, hq, h1, hL, h2, h3⟩, st⟩ | ⟨q, vm₁, ⟨U', l2, c2, s2⟩, hW₁, X', ⟨g', mk, t, L, E, ce, e1, e2, hq, hce, hcv, hcl, h1, hL, h2, h3⟩, st⟩
  · dsimp only [Pt.U, Pt.locs, Pt.cells, Pt.slots] at X' e1 e2 h1 h2 h3 st
    subst h1; subst h2; subst h3
    exact Or.inl ⟨v, (T.setVm vm₁).calling g' mk (Value.ref b :: As).toArray, t, U', L, hT, X', hL, e1, e2, hq, st⟩
  · dsimp only [Pt.U, Pt.locs, Pt.cells, Pt.slots] at X' e1 e2 h1 h2 h3 st hcl
    subst h1; subst h2; subst h3
    exact Or.inr ⟨q, (T.setVm vm₁).calling g' mk (Value.ref b :: As).toArray, t, U', L, E, ce, hT, X', hL, e1, e2, hq, hce, hcv, vx_cls hW₁ hcl, st⟩
theorem vx_runSX {hh : List (Nat × Nat × Nat × Nat)} (S : CallFix p m c cc nL s args Ts own) (hM : vx_Met l y ws rm Pc Qc XC mc ms free) (cw : vx_CSW R s args own index y bytes maxL ret hh ws rm mc ms n) (hp : PreS s H Pc As)
    (hg : g.method = m) (hn : As.length = n) (hsize : g.locals.size = nL) (hstack : g.stack = As.reverse ++ rest) (hW : 2 * g.monitorRoom + (rest.map fun v => v.category).sum ≤ 8) (hdg : decode cc g.pc = .ok (.invokestatic index, 3)) (hf : cells + mc ≤ R.cells ∧ slots + ms ≤ R.slots) :
    vx_Run p l e R s m args below meth c H locs cells slots mc ms g rest (Qc As.toArray) XC free := by
  obtain ⟨⟨hrc, hrs, hfr, hlo, hws, hcw⟩, hcode, hini, hy, hlen, hl, hstt⟩ := cw
  have hK : vx_Back l R p e below s args y 3 8 (PreOf R mc ms Pc) (PostOf Qc mc ms free) (vx_Post XC mc ms free) := vx_backW (hh := hh) (bytes := bytes) (maxL := maxL) (ret := ret) hM hp.1 hrc hrs hfr hlo hws hcw (fun a' U hW => word_at hW (Or.inl (by first | rfl | simp [Cond.onTables, Cond.keeps, Cond.steady])) hini)
  obtain ⟨hx, hb, hml, ho, -⟩ := S
  intro T hT X
  rcases vx_callSX X hx (hh := hh) (bytes := bytes) (maxL := maxL) (ret := ret) ho hl hstt hini hcode hy hK hg (hsize.trans hml.symm) (argsL := As) (rest := rest) (fun sig h => hn.trans (hlen sig h)) hstack hW (by rw [hb]; exact hdg)
    (fun vm₁ hW₁ => ⟨hf.1, hf.2, hp.2 (T.setVm vm₁) hT hW₁⟩) with ⟨v, vm₁, ⟨U', l2, c2, s2⟩, hW₁, X', ⟨g', mk, t, L, e1, e2, hq, h1, hL, h2, h3⟩, st⟩ | ⟨q, vm₁, ⟨U', l2, c2, s2⟩, hW₁, X', ⟨g', mk, t, L, E, ce, e1, e2, hq, hce, hcv, hcl, h1, hL, h2, h3⟩, st⟩
  · dsimp only [Pt.U, Pt.locs, Pt.cells, Pt.slots] at X' e1 e2 h1 h2 h3 st
    subst h1; subst h2; subst h3
    exact Or.inl ⟨v, (T.setVm vm₁).calling g' mk As.toArray, t, U', L, hT, X', hL, e1, e2, hq, st⟩
  · dsimp only [Pt.U, Pt.locs, Pt.cells, Pt.slots] at X' e1 e2 h1 h2 h3 st hcl
    subst h1; subst h2; subst h3
    exact Or.inr ⟨q, (T.setVm vm₁).calling g' mk As.toArray, t, U', L, E, ce, hT, X', hL, e1, e2, hq, hce, hcv, vx_cls hW₁ hcl, st⟩
end
end VXH
theorem vx_ofWH {l : Launch} {y : MethodName} {ws ws' : List Cond} {rm : Room} {Pc : Array Value → State → Prop} {Qc : Array Value → State → Outcome → State → Prop} {XC : String → State → State → Prop} {mc ms : Nat} {free : Addr → Prop} {cc : ByteArray} {maxL : Nat} {ret : Option FieldType} {hh : List (Nat × Nat × Nat × Nat)}
    (hy : plainName y.cls = true) (hw : ws = Cond.codeWith y cc maxL ret hh :: ws')
    (body : ∀ p e s m args below meth c s₁, BodyLoose p l y (headSpec ws rm) cc maxL ret e s m args below meth c s₁ → c.maxLocals = maxL → Pc args s →
      W p l e (headSpec ws rm).room s m args below meth c s.heap [] 0 0 (vx_MQ below Qc XC args s mc ms free) (entryFrame m args maxL)) : vx_Met l y ws rm Pc Qc XC mc ms free := by
  refine MetFree.of_bodyS (code := cc) (maxLocals := maxL) (ret := ret) hy ?_ ?_
  · intro args s m h hn
    obtain ⟨m9, meth, c, hn9, h1, h2, h3, h4, -, h5, h6, -⟩ := Cond.codeWith_spec (atoms_spec (ws := ws) h _ (by rw [hw]; exact List.mem_cons_self))
    cases hn.symm.trans hn9
    exact ⟨meth, c, h1, h2, h3, h4, h5, h6⟩
  · intro p e s m args below meth c s₁ B hml hP _
    have hh0 : s₁.heap = s.heap := by rw [B.state]; rfl
    obtain ⟨t, a1, o, b1, b2, b3⟩ := body p e s m args below meth c s₁ B hml hP s₁ hh0 (Stand.of_body B)
    exact ⟨t, o, a1, b1, b2, b3⟩
/-! ===== END ===== -/
end
section
def RX0 : String := "LampValley$Council"
def TX0 : u_T := fun k => match k with
  | 0 => ("LampValley$Council", "child", "[I", true)
  | 1 => ("LampValley$Council", "stride", "[I", true)
  | 2 => ("LampValley$Council", "weddings", "[I", true)
  | 3 => ("LampValley$Council", "mothers", "I", false)
  | _ => ("LampValley$Council", "rows", "I", false)
def tyX0 : Nat → FieldType := fun k => match k with
  | 0 => .array .int
  | 1 => .array .int
  | 2 => .array .int
  | 3 => .int
  | _ => .int
abbrev wsX00 : List Cond := u_ws RX0 TX0 5
theorem nmX0 : ∀ a, a < 5 → ∀ b, b < 5 → a ≠ b → (TX0 a).2.1 ≠ (TX0 b).2.1 := by decide +kernel
theorem tyX0_ok : ∀ k, k < 5 → parseFieldDescriptor (TX0 k).2.2.1 = some (tyX0 k) := by decide +kernel
abbrev cX0_init : ByteArray := prog_2_method_1_code
def yX0_init : MethodName := ⟨RX0, "<init>", "()V"⟩
abbrev cX0_hear : ByteArray := prog_2_method_2_code
def yX0_hear : MethodName := ⟨RX0, "hear", "(LLampValley$Way;LLampValley$Scene;LLampValley$Scene;I)V"⟩
abbrev cX0_seat : ByteArray := prog_2_method_3_code
def yX0_seat : MethodName := ⟨RX0, "seat", "(I)V"⟩
abbrev cX0_choiceOf : ByteArray := prog_2_method_4_code
def yX0_choiceOf : MethodName := ⟨RX0, "choiceOf", "(II)I"⟩
abbrev cX0_giveRow : ByteArray := prog_2_method_5_code
def yX0_giveRow : MethodName := ⟨RX0, "giveRow", "(LLampValley$Scene;I)Z"⟩
abbrev cX0_rests : ByteArray := prog_2_method_6_code
def yX0_rests : MethodName := ⟨RX0, "rests", "(I)Z"⟩
abbrev cX0_countRests : ByteArray := prog_2_method_7_code
def yX0_countRests : MethodName := ⟨RX0, "countRests", "()I"⟩
abbrev cX0_firstRest : ByteArray := prog_2_method_8_code
def yX0_firstRest : MethodName := ⟨RX0, "firstRest", "()I"⟩
abbrev cX0_writeFigures : ByteArray := prog_2_method_9_code
def yX0_writeFigures : MethodName := ⟨RX0, "writeFigures", "(I)I"⟩
abbrev cX0_bestOfOne : ByteArray := prog_2_method_10_code
def yX0_bestOfOne : MethodName := ⟨RX0, "bestOfOne", "()I"⟩
abbrev cX0_dropOf : ByteArray := prog_2_method_11_code
def yX0_dropOf : MethodName := ⟨RX0, "dropOf", "(I)I"⟩
abbrev cX0_weddingOf : ByteArray := prog_2_method_12_code
def yX0_weddingOf : MethodName := ⟨RX0, "weddingOf", "(I)I"⟩
def RX1 : String := "LampValley$Reader"
def TX1 : u_T := fun k => match k with
  | 0 => ("LampValley$Reader", "wrong", "I", false)
  | 1 => ("LampValley$Reader", "place", "I", false)
  | 2 => ("LampValley$Reader", "text", "[I", true)
  | 3 => ("LampValley$Reader", "length", "I", false)
  | 4 => ("LampValley$Reader", "token", "I", false)
  | 5 => ("LampValley$Reader", "start", "I", false)
  | 6 => ("LampValley$Reader", "behind", "I", false)
  | 7 => ("LampValley$Reader", "lastStart", "I", false)
  | 8 => ("LampValley$Reader", "wordsTold", "I", false)
  | _ => ("LampValley$Reader", "into", "LLampValley$Told;", false)
def tyX1 : Nat → FieldType := fun k => match k with
  | 0 => .int
  | 1 => .int
  | 2 => .array .int
  | 3 => .int
  | 4 => .int
  | 5 => .int
  | 6 => .int
  | 7 => .int
  | 8 => .int
  | _ => .object "LampValley$Told"
abbrev wsX10 : List Cond := u_ws RX1 TX1 10
theorem nmX1 : ∀ a, a < 10 → ∀ b, b < 10 → a ≠ b → (TX1 a).2.1 ≠ (TX1 b).2.1 := by decide +kernel
theorem tyX1_ok : ∀ k, k < 10 → parseFieldDescriptor (TX1 k).2.2.1 = some (tyX1 k) := by decide +kernel
abbrev cX1_init : ByteArray := prog_3_method_1_code
def yX1_init : MethodName := ⟨RX1, "<init>", "([ILLampValley$Told;)V"⟩
abbrev cX1_read : ByteArray := prog_3_method_2_code
def yX1_read : MethodName := ⟨RX1, "read", "(ILLampValley$Told;)V"⟩
abbrev cX1_refuse : ByteArray := prog_3_method_3_code
def yX1_refuse : MethodName := ⟨RX1, "refuse", "(II)V"⟩
abbrev cX1_advance : ByteArray := prog_3_method_4_code
def yX1_advance : MethodName := ⟨RX1, "advance", "()V"⟩
abbrev cX1_classify : ByteArray := prog_3_method_5_code
def yX1_classify : MethodName := ⟨RX1, "classify", "(I)I"⟩
abbrev cX1_readLine : ByteArray := prog_3_method_6_code
def yX1_readLine : MethodName := ⟨RX1, "readLine", "(I)V"⟩
abbrev cX1_findWord : ByteArray := prog_3_method_7_code
def yX1_findWord : MethodName := ⟨RX1, "findWord", "()I"⟩
abbrev cX1_isSpelt : ByteArray := prog_3_method_8_code
def yX1_isSpelt : MethodName := ⟨RX1, "isSpelt", "(II)Z"⟩
abbrev cX1_judgeWord : ByteArray := prog_3_method_9_code
def yX1_judgeWord : MethodName := ⟨RX1, "judgeWord", "(II)I"⟩
abbrev cX1_readKind : ByteArray := prog_3_method_10_code
def yX1_readKind : MethodName := ⟨RX1, "readKind", "(I)V"⟩
abbrev cX1_readLikes : ByteArray := prog_3_method_11_code
def yX1_readLikes : MethodName := ⟨RX1, "readLikes", "()V"⟩
abbrev cX1_readFog : ByteArray := prog_3_method_12_code
def yX1_readFog : MethodName := ⟨RX1, "readFog", "()V"⟩
abbrev cX1_readSetting : ByteArray := prog_3_method_13_code
def yX1_readSetting : MethodName := ⟨RX1, "readSetting", "(I)V"⟩
abbrev cX1_readLamp : ByteArray := prog_3_method_14_code
def yX1_readLamp : MethodName := ⟨RX1, "readLamp", "()I"⟩
abbrev cX1_readNumber : ByteArray := prog_3_method_15_code
def yX1_readNumber : MethodName := ⟨RX1, "readNumber", "(III)I"⟩
def RX2 : String := "LampValley$Scene"
def TX2 : u_T := fun k => match k with
  | 0 => ("LampValley$Scene", "oils", "[I", true)
  | 1 => ("LampValley$Scene", "spouse", "[I", true)
  | 2 => ("LampValley$Scene", "wedding", "[I", true)
  | 3 => ("LampValley$Scene", "night", "I", false)
  | 4 => ("LampValley$Scene", "out", "I", false)
  | _ => ("LampValley$Scene", "couples", "I", false)
def tyX2 : Nat → FieldType := fun k => match k with
  | 0 => .array .int
  | 1 => .array .int
  | 2 => .array .int
  | 3 => .int
  | 4 => .int
  | _ => .int
abbrev wsX20 : List Cond := u_ws RX2 TX2 6
theorem nmX2 : ∀ a, a < 6 → ∀ b, b < 6 → a ≠ b → (TX2 a).2.1 ≠ (TX2 b).2.1 := by decide +kernel
theorem tyX2_ok : ∀ k, k < 6 → parseFieldDescriptor (TX2 k).2.2.1 = some (tyX2 k) := by decide +kernel
abbrev cX2_init : ByteArray := prog_4_method_1_code
def yX2_init : MethodName := ⟨RX2, "<init>", "()V"⟩
abbrev cX2_begin : ByteArray := prog_4_method_2_code
def yX2_begin : MethodName := ⟨RX2, "begin", "(LLampValley$Told;)V"⟩
abbrev cX2_take : ByteArray := prog_4_method_3_code
def yX2_take : MethodName := ⟨RX2, "take", "(LLampValley$Scene;)V"⟩
abbrev cX2_isOut : ByteArray := prog_4_method_4_code
def yX2_isOut : MethodName := ⟨RX2, "isOut", "(I)Z"⟩
abbrev cX2_apart : ByteArray := prog_4_method_5_code
def yX2_apart : MethodName := ⟨RX2, "apart", "(II)I"⟩
abbrev cX2_pour : ByteArray := prog_4_method_6_code
def yX2_pour : MethodName := ⟨RX2, "pour", "(III)Z"⟩
abbrev cX2_marryAll : ByteArray := prog_4_method_7_code
def yX2_marryAll : MethodName := ⟨RX2, "marryAll", "(LLampValley$Told;)V"⟩
abbrev cX2_marry : ByteArray := prog_4_method_8_code
def yX2_marry : MethodName := ⟨RX2, "marry", "(II)V"⟩
abbrev cX2_partSince : ByteArray := prog_4_method_9_code
def yX2_partSince : MethodName := ⟨RX2, "partSince", "(I)V"⟩
abbrev cX2_packColours : ByteArray := prog_4_method_10_code
def yX2_packColours : MethodName := ⟨RX2, "packColours", "()J"⟩
def RX3 : String := "LampValley$Story"
def TX3 : u_T := fun k => match k with
  | 0 => ("LampValley$Story", "scene", "LLampValley$Scene;", true)
  | 1 => ("LampValley$Story", "dusks", "[I", true)
  | 2 => ("LampValley$Story", "dawns", "[I", true)
  | _ => ("LampValley$Story", "refused", "[I", true)
def tyX3 : Nat → FieldType := fun k => match k with
  | 0 => .object "LampValley$Scene"
  | 1 => .array .int
  | 2 => .array .int
  | _ => .array .int
abbrev wsX30 : List Cond := u_ws RX3 TX3 4
theorem nmX3 : ∀ a, a < 4 → ∀ b, b < 4 → a ≠ b → (TX3 a).2.1 ≠ (TX3 b).2.1 := by decide +kernel
theorem tyX3_ok : ∀ k, k < 4 → parseFieldDescriptor (TX3 k).2.2.1 = some (tyX3 k) := by decide +kernel
abbrev cX3_init : ByteArray := prog_5_method_1_code
def yX3_init : MethodName := ⟨RX3, "<init>", "()V"⟩
abbrev cX3_begin : ByteArray := prog_5_method_2_code
def yX3_begin : MethodName := ⟨RX3, "begin", "(LLampValley$Told;)V"⟩
abbrev cX3_take : ByteArray := prog_5_method_3_code
def yX3_take : MethodName := ⟨RX3, "take", "(LLampValley$Story;)V"⟩
abbrev cX3_writeDusk : ByteArray := prog_5_method_4_code
def yX3_writeDusk : MethodName := ⟨RX3, "writeDusk", "()V"⟩
abbrev cX3_writeDawn : ByteArray := prog_5_method_5_code
def yX3_writeDawn : MethodName := ⟨RX3, "writeDawn", "()V"⟩
abbrev cX3_goBack : ByteArray := prog_5_method_6_code
def yX3_goBack : MethodName := ⟨RX3, "goBack", "(I)V"⟩
abbrev cX3_readDusk : ByteArray := prog_5_method_7_code
def yX3_readDusk : MethodName := ⟨RX3, "readDusk", "(ILLampValley$Scene;)V"⟩
abbrev cX3_readDawn : ByteArray := prog_5_method_8_code
def yX3_readDawn : MethodName := ⟨RX3, "readDawn", "(II[I)V"⟩
def RX4 : String := "LampValley$Told"
def TX4 : u_T := fun k => match k with
  | 0 => ("LampValley$Told", "full", "I", false)
  | 1 => ("LampValley$Told", "lamps", "I", false)
  | 2 => ("LampValley$Told", "step", "I", false)
  | 3 => ("LampValley$Told", "near", "I", false)
  | 4 => ("LampValley$Told", "fright", "I", false)
  | 5 => ("LampValley$Told", "easter", "I", false)
  | 6 => ("LampValley$Told", "fogs", "I", false)
  | 7 => ("LampValley$Told", "kind", "[I", true)
  | 8 => ("LampValley$Told", "side", "[I", true)
  | 9 => ("LampValley$Told", "likes", "[I", true)
  | 10 => ("LampValley$Told", "oils", "[I", true)
  | 11 => ("LampValley$Told", "fogNight", "[I", true)
  | 12 => ("LampValley$Told", "fogEye", "[I", true)
  | _ => ("LampValley$Told", "fogHidden", "[I", true)
def tyX4 : Nat → FieldType := fun k => match k with
  | 0 => .int
  | 1 => .int
  | 2 => .int
  | 3 => .int
  | 4 => .int
  | 5 => .int
  | 6 => .int
  | 7 => .array .int
  | 8 => .array .int
  | 9 => .array .int
  | 10 => .array .int
  | 11 => .array .int
  | 12 => .array .int
  | _ => .array .int
abbrev wsX40 : List Cond := u_ws RX4 TX4 14
theorem nmX4 : ∀ a, a < 14 → ∀ b, b < 14 → a ≠ b → (TX4 a).2.1 ≠ (TX4 b).2.1 := by decide +kernel
theorem tyX4_ok : ∀ k, k < 14 → parseFieldDescriptor (TX4 k).2.2.1 = some (tyX4 k) := by decide +kernel
abbrev cX4_init : ByteArray := prog_6_method_1_code
def yX4_init : MethodName := ⟨RX4, "<init>", "()V"⟩
abbrev cX4_forget : ByteArray := prog_6_method_2_code
def yX4_forget : MethodName := ⟨RX4, "forget", "()V"⟩
abbrev cX4_addLamp : ByteArray := prog_6_method_3_code
def yX4_addLamp : MethodName := ⟨RX4, "addLamp", "(IIII)V"⟩
abbrev cX4_addFog : ByteArray := prog_6_method_4_code
def yX4_addFog : MethodName := ⟨RX4, "addFog", "(III)V"⟩
abbrev cX4_hides : ByteArray := prog_6_method_5_code
def yX4_hides : MethodName := ⟨RX4, "hides", "(III)Z"⟩
abbrev cX4_findLastFog : ByteArray := prog_6_method_6_code
def yX4_findLastFog : MethodName := ⟨RX4, "findLastFog", "()I"⟩
abbrev cX4_countAcross : ByteArray := prog_6_method_7_code
def yX4_countAcross : MethodName := ⟨RX4, "countAcross", "(I)I"⟩
abbrev cX4_findAcross : ByteArray := prog_6_method_8_code
def yX4_findAcross : MethodName := ⟨RX4, "findAcross", "(II)I"⟩
def RX5 : String := "LampValley$Way"
def TX5 : u_T := fun k => match k with
  | 0 => ("LampValley$Way", "dawn", "[I", true)
  | 1 => ("LampValley$Way", "told", "LLampValley$Told;", false)
  | 2 => ("LampValley$Way", "likes", "[I", false)
  | 3 => ("LampValley$Way", "step", "I", false)
  | _ => ("LampValley$Way", "noGreen", "Z", false)
def tyX5 : Nat → FieldType := fun k => match k with
  | 0 => .array .int
  | 1 => .object "LampValley$Told"
  | 2 => .array .int
  | 3 => .int
  | _ => .boolean
abbrev wsX50 : List Cond := u_ws RX5 TX5 5
theorem nmX5 : ∀ a, a < 5 → ∀ b, b < 5 → a ≠ b → (TX5 a).2.1 ≠ (TX5 b).2.1 := by decide +kernel
theorem tyX5_ok : ∀ k, k < 5 → parseFieldDescriptor (TX5 k).2.2.1 = some (tyX5 k) := by decide +kernel
abbrev cX5_init : ByteArray := prog_7_method_1_code
def yX5_init : MethodName := ⟨RX5, "<init>", "(LLampValley$Told;)V"⟩
abbrev cX5_obey : ByteArray := prog_7_method_2_code
def yX5_obey : MethodName := ⟨RX5, "obey", "(LLampValley$Told;[II)V"⟩
abbrev cX5_goToEaster : ByteArray := prog_7_method_3_code
def yX5_goToEaster : MethodName := ⟨RX5, "goToEaster", "(LLampValley$Scene;I)V"⟩
abbrev cX5_findWedding : ByteArray := prog_7_method_4_code
def yX5_findWedding : MethodName := ⟨RX5, "findWedding", "(LLampValley$Scene;I)I"⟩
abbrev cX5_passNight : ByteArray := prog_7_method_5_code
def yX5_passNight : MethodName := ⟨RX5, "passNight", "(LLampValley$Scene;)Z"⟩
abbrev cX5_moveLamp : ByteArray := prog_7_method_6_code
def yX5_moveLamp : MethodName := ⟨RX5, "moveLamp", "(LLampValley$Scene;II)V"⟩
abbrev cX5_isHeld : ByteArray := prog_7_method_7_code
def yX5_isHeld : MethodName := ⟨RX5, "isHeld", "(LLampValley$Scene;I)Z"⟩
abbrev cX5_findGoal : ByteArray := prog_7_method_8_code
def yX5_findGoal : MethodName := ⟨RX5, "findGoal", "(LLampValley$Scene;II)I"⟩
abbrev cX5_goTowards : ByteArray := prog_7_method_9_code
def yX5_goTowards : MethodName := ⟨RX5, "goTowards", "(LLampValley$Scene;II)V"⟩
abbrev cX5_stagger : ByteArray := prog_7_method_10_code
def yX5_stagger : MethodName := ⟨RX5, "stagger", "(I)V"⟩
def RX6 : String := "LampValley"
def TX6 : u_T := fun k => match k with
  | 0 => ("LampValley", "tape", "[I", true)
  | 1 => ("LampValley", "reader", "LLampValley$Reader;", true)
  | 2 => ("LampValley", "story", "LLampValley$Story;", true)
  | 3 => ("LampValley", "kept", "LLampValley$Story;", true)
  | 4 => ("LampValley", "trial", "LLampValley$Scene;", true)
  | 5 => ("LampValley", "colours", "[J", true)
  | 6 => ("LampValley", "drawn", "[I", true)
  | 7 => ("LampValley", "seen", "[I", true)
  | 8 => ("LampValley", "council", "LLampValley$Council;", true)
  | 9 => ("LampValley", "way", "LLampValley$Way;", true)
  | 10 => ("LampValley", "told", "LLampValley$Told;", false)
  | 11 => ("LampValley", "spare", "LLampValley$Told;", false)
  | 12 => ("LampValley", "tapeLength", "I", false)
  | 13 => ("LampValley", "faultPlace", "I", false)
  | _ => ("LampValley", "isKept", "Z", false)
def tyX6 : Nat → FieldType := fun k => match k with
  | 0 => .array .int
  | 1 => .object "LampValley$Reader"
  | 2 => .object "LampValley$Story"
  | 3 => .object "LampValley$Story"
  | 4 => .object "LampValley$Scene"
  | 5 => .array .long
  | 6 => .array .int
  | 7 => .array .int
  | 8 => .object "LampValley$Council"
  | 9 => .object "LampValley$Way"
  | 10 => .object "LampValley$Told"
  | 11 => .object "LampValley$Told"
  | 12 => .int
  | 13 => .int
  | _ => .boolean
abbrev wsX60 : List Cond := u_ws RX6 TX6 15
theorem nmX6 : ∀ a, a < 15 → ∀ b, b < 15 → a ≠ b → (TX6 a).2.1 ≠ (TX6 b).2.1 := by decide +kernel
theorem tyX6_ok : ∀ k, k < 15 → parseFieldDescriptor (TX6 k).2.2.1 = some (tyX6 k) := by decide +kernel
abbrev cX6_init : ByteArray := prog_1_method_1_code
def yX6_init : MethodName := ⟨RX6, "<init>", "()V"⟩
abbrev cX6_feed : ByteArray := prog_1_method_2_code
def yX6_feed : MethodName := ⟨RX6, "feed", "(IIIII)I"⟩
abbrev cX6_valley : ByteArray := prog_1_method_3_code
def yX6_valley : MethodName := ⟨RX6, "valley", "(I)I"⟩
abbrev cX6_fault : ByteArray := prog_1_method_4_code
def yX6_fault : MethodName := ⟨RX6, "fault", "()I"⟩
abbrev cX6_count : ByteArray := prog_1_method_5_code
def yX6_count : MethodName := ⟨RX6, "count", "(I)I"⟩
abbrev cX6_lamp : ByteArray := prog_1_method_6_code
def yX6_lamp : MethodName := ⟨RX6, "lamp", "(II)I"⟩
abbrev cX6_far : ByteArray := prog_1_method_7_code
def yX6_far : MethodName := ⟨RX6, "far", "(II)I"⟩
abbrev cX6_nights : ByteArray := prog_1_method_8_code
def yX6_nights : MethodName := ⟨RX6, "nights", "(I)I"⟩
abbrev cX6_undo : ByteArray := prog_1_method_9_code
def yX6_undo : MethodName := ⟨RX6, "undo", "(I)I"⟩
abbrev cX6_book : ByteArray := prog_1_method_10_code
def yX6_book : MethodName := ⟨RX6, "book", "(III)I"⟩
abbrev cX6_drop : ByteArray := prog_1_method_11_code
def yX6_drop : MethodName := ⟨RX6, "drop", "(III)Z"⟩
abbrev cX6_end : ByteArray := prog_1_method_12_code
def yX6_end : MethodName := ⟨RX6, "end", "(I)I"⟩
abbrev cX6_matches : ByteArray := prog_1_method_13_code
def yX6_matches : MethodName := ⟨RX6, "matches", "(I)I"⟩
abbrev cX6_mother : ByteArray := prog_1_method_14_code
def yX6_mother : MethodName := ⟨RX6, "mother", "(II)I"⟩
abbrev cX6_mothers : ByteArray := prog_1_method_15_code
def yX6_mothers : MethodName := ⟨RX6, "mothers", "(II)I"⟩
abbrev cX6_may : ByteArray := prog_1_method_16_code
def yX6_may : MethodName := ⟨RX6, "may", "(I)I"⟩
abbrev cX6_tells : ByteArray := prog_1_method_17_code
def yX6_tells : MethodName := ⟨RX6, "tells", "(II)I"⟩
abbrev cX6_near : ByteArray := prog_1_method_18_code
def yX6_near : MethodName := ⟨RX6, "near", "(I)I"⟩
abbrev cX6_years : ByteArray := prog_1_method_19_code
def yX6_years : MethodName := ⟨RX6, "years", "(III)I"⟩
abbrev cX6_image : ByteArray := prog_1_method_20_code
def yX6_image : MethodName := ⟨RX6, "image", "()V"⟩
abbrev cX6_restore : ByteArray := prog_1_method_21_code
def yX6_restore : MethodName := ⟨RX6, "restore", "()Z"⟩
abbrev cX6_putBytes : ByteArray := prog_1_method_22_code
def yX6_putBytes : MethodName := ⟨RX6, "putBytes", "(I)V"⟩
abbrev cX6_requireLamp : ByteArray := prog_1_method_23_code
def yX6_requireLamp : MethodName := ⟨RX6, "requireLamp", "(I)V"⟩
abbrev cX6_requireOil : ByteArray := prog_1_method_24_code
def yX6_requireOil : MethodName := ⟨RX6, "requireOil", "(I)V"⟩
abbrev cX6_requireFirstOrSecond : ByteArray := prog_1_method_25_code
def yX6_requireFirstOrSecond : MethodName := ⟨RX6, "requireFirstOrSecond", "(I)V"⟩
abbrev cX6_allLamps : ByteArray := prog_1_method_26_code
def yX6_allLamps : MethodName := ⟨RX6, "allLamps", "()I"⟩
abbrev cX6_areChildren : ByteArray := prog_1_method_27_code
def yX6_areChildren : MethodName := ⟨RX6, "areChildren", "(I)Z"⟩
abbrev cX6_findRound : ByteArray := prog_1_method_28_code
def yX6_findRound : MethodName := ⟨RX6, "findRound", "()I"⟩
abbrev cX6_leftByBook : ByteArray := prog_1_method_29_code
def yX6_leftByBook : MethodName := ⟨RX6, "leftByBook", "(I)I"⟩
abbrev cX6_leftByNight : ByteArray := prog_1_method_30_code
def yX6_leftByNight : MethodName := ⟨RX6, "leftByNight", "(II)I"⟩
abbrev cX6_isSeen : ByteArray := prog_1_method_31_code
def yX6_isSeen : MethodName := ⟨RX6, "isSeen", "(I)Z"⟩
abbrev cX6_drawLikes : ByteArray := prog_1_method_32_code
def yX6_drawLikes : MethodName := ⟨RX6, "drawLikes", "(I)I"⟩
def RX7 : String := "LampValleyModel"
def TX7 : u_T := fun k => match k with
  | 0 => ("LampValleyModel", "kinds", "[Ljava/lang/String;", true)
  | 1 => ("LampValleyModel", "rules", "[Ljava/lang/String;", true)
  | 2 => ("LampValleyModel", "leasts", "[I", true)
  | 3 => ("LampValleyModel", "tops", "[I", true)
  | 4 => ("LampValleyModel", "code", "I", false)
  | 5 => ("LampValleyModel", "told", "[I", true)
  | 6 => ("LampValleyModel", "kind", "[I", true)
  | 7 => ("LampValleyModel", "side", "[I", true)
  | 8 => ("LampValleyModel", "oils", "[I", true)
  | 9 => ("LampValleyModel", "likes", "[I", true)
  | 10 => ("LampValleyModel", "fogNight", "[I", true)
  | 11 => ("LampValleyModel", "fogFrom", "[I", true)
  | 12 => ("LampValleyModel", "fogTo", "[I", true)
  | 13 => ("LampValleyModel", "status", "[I", true)
  | 14 => ("LampValleyModel", "tape", "[I", true)
  | 15 => ("LampValleyModel", "taped", "I", false)
  | 16 => ("LampValleyModel", "at", "I", false)
  | 17 => ("LampValleyModel", "size", "I", false)
  | 18 => ("LampValleyModel", "token", "I", false)
  | 19 => ("LampValleyModel", "number", "I", false)
  | 20 => ("LampValleyModel", "begins", "I", false)
  | 21 => ("LampValleyModel", "ends", "I", false)
  | 22 => ("LampValleyModel", "bad", "I", false)
  | 23 => ("LampValleyModel", "badPlace", "I", false)
  | 24 => ("LampValleyModel", "faultPlace", "I", false)
  | 25 => ("LampValleyModel", "now", "[I", true)
  | 26 => ("LampValleyModel", "trial", "[I", true)
  | 27 => ("LampValleyModel", "dusk", "[I", true)
  | 28 => ("LampValleyModel", "liked", "[I", true)
  | 29 => ("LampValleyModel", "gone", "I", false)
  | 30 => ("LampValleyModel", "mix", "[I", true)
  | 31 => ("LampValleyModel", "dusks", "[I", true)
  | 32 => ("LampValleyModel", "dawns", "[I", true)
  | 33 => ("LampValleyModel", "outs", "[I", true)
  | 34 => ("LampValleyModel", "colours", "[I", true)
  | 35 => ("LampValleyModel", "outsThen", "[I", true)
  | 36 => ("LampValleyModel", "whose", "[I", true)
  | 37 => ("LampValleyModel", "wedBy", "[I", true)
  | 38 => ("LampValleyModel", "mothersMany", "I", false)
  | 39 => ("LampValleyModel", "ahead", "[I", true)
  | 40 => ("LampValleyModel", "seedNow", "I", false)
  | 41 => ("LampValleyModel", "hasImage", "Z", false)
  | 42 => ("LampValleyModel", "goneThen", "I", false)
  | 43 => ("LampValleyModel", "nowThen", "[I", true)
  | 44 => ("LampValleyModel", "dusksThen", "[I", true)
  | 45 => ("LampValleyModel", "dawnsThen", "[I", true)
  | 46 => ("LampValleyModel", "outsKept", "[I", true)
  | _ => ("LampValleyModel", "statusThen", "[I", true)
def tyX7 : Nat → FieldType := fun k => match k with
  | 0 => .array (.object "java/lang/String")
  | 1 => .array (.object "java/lang/String")
  | 2 => .array .int
  | 3 => .array .int
  | 4 => .int
  | 5 => .array .int
  | 6 => .array .int
  | 7 => .array .int
  | 8 => .array .int
  | 9 => .array .int
  | 10 => .array .int
  | 11 => .array .int
  | 12 => .array .int
  | 13 => .array .int
  | 14 => .array .int
  | 15 => .int
  | 16 => .int
  | 17 => .int
  | 18 => .int
  | 19 => .int
  | 20 => .int
  | 21 => .int
  | 22 => .int
  | 23 => .int
  | 24 => .int
  | 25 => .array .int
  | 26 => .array .int
  | 27 => .array .int
  | 28 => .array .int
  | 29 => .int
  | 30 => .array .int
  | 31 => .array .int
  | 32 => .array .int
  | 33 => .array .int
  | 34 => .array .int
  | 35 => .array .int
  | 36 => .array .int
  | 37 => .array .int
  | 38 => .int
  | 39 => .array .int
  | 40 => .int
  | 41 => .boolean
  | 42 => .int
  | 43 => .array .int
  | 44 => .array .int
  | 45 => .array .int
  | 46 => .array .int
  | _ => .array .int
abbrev wsX70 : List Cond := u_ws RX7 TX7 48
theorem nmX7 : ∀ a, a < 48 → ∀ b, b < 48 → a ≠ b → (TX7 a).2.1 ≠ (TX7 b).2.1 := by decide +kernel
theorem tyX7_ok : ∀ k, k < 48 → parseFieldDescriptor (TX7 k).2.2.1 = some (tyX7 k) := by decide +kernel
abbrev cX7_init : ByteArray := prog_9_method_1_code
def yX7_init : MethodName := ⟨RX7, "<init>", "()V"⟩
abbrev cX7_thrown : ByteArray := prog_9_method_2_code
def yX7_thrown : MethodName := ⟨RX7, "thrown", "()I"⟩
abbrev cX7_fail : ByteArray := prog_9_method_3_code
def yX7_fail : MethodName := ⟨RX7, "fail", "(I)I"⟩
abbrev cX7_isIn : ByteArray := prog_9_method_4_code
def yX7_isIn : MethodName := ⟨RX7, "isIn", "(III)Z"⟩
abbrev cX7_isLamp : ByteArray := prog_9_method_5_code
def yX7_isLamp : MethodName := ⟨RX7, "isLamp", "(I)Z"⟩
abbrev cX7_feed : ByteArray := prog_9_method_6_code
def yX7_feed : MethodName := ⟨RX7, "feed", "(IIIII)I"⟩
abbrev cX7_byteAt : ByteArray := prog_9_method_7_code
def yX7_byteAt : MethodName := ⟨RX7, "byteAt", "(I)I"⟩
abbrev cX7_isLetter : ByteArray := prog_9_method_8_code
def yX7_isLetter : MethodName := ⟨RX7, "isLetter", "(I)Z"⟩
abbrev cX7_isDigit : ByteArray := prog_9_method_9_code
def yX7_isDigit : MethodName := ⟨RX7, "isDigit", "(I)Z"⟩
abbrev cX7_stepOn : ByteArray := prog_9_method_10_code
def yX7_stepOn : MethodName := ⟨RX7, "stepOn", "()V"⟩
abbrev cX7_wrong : ByteArray := prog_9_method_11_code
def yX7_wrong : MethodName := ⟨RX7, "wrong", "(I)V"⟩
abbrev cX7_is : ByteArray := prog_9_method_12_code
def yX7_is : MethodName := ⟨RX7, "is", "(Ljava/lang/String;)Z"⟩
abbrev cX7_which : ByteArray := prog_9_method_13_code
def yX7_which : MethodName := ⟨RX7, "which", "([Ljava/lang/String;)I"⟩
abbrev cX7_numberNow : ByteArray := prog_9_method_14_code
def yX7_numberNow : MethodName := ⟨RX7, "numberNow", "(II)I"⟩
abbrev cX7_readNumber : ByteArray := prog_9_method_15_code
def yX7_readNumber : MethodName := ⟨RX7, "readNumber", "(II)I"⟩
abbrev cX7_lampNow : ByteArray := prog_9_method_16_code
def yX7_lampNow : MethodName := ⟨RX7, "lampNow", "()I"⟩
abbrev cX7_readLamp : ByteArray := prog_9_method_17_code
def yX7_readLamp : MethodName := ⟨RX7, "readLamp", "()I"⟩
abbrev cX7_readNewLamp : ByteArray := prog_9_method_18_code
def yX7_readNewLamp : MethodName := ⟨RX7, "readNewLamp", "(I)V"⟩
abbrev cX7_readLikes : ByteArray := prog_9_method_19_code
def yX7_readLikes : MethodName := ⟨RX7, "readLikes", "()V"⟩
abbrev cX7_readFog : ByteArray := prog_9_method_20_code
def yX7_readFog : MethodName := ⟨RX7, "readFog", "()V"⟩
abbrev cX7_readLine : ByteArray := prog_9_method_21_code
def yX7_readLine : MethodName := ⟨RX7, "readLine", "(I)I"⟩
abbrev cX7_readBy : ByteArray := prog_9_method_22_code
def yX7_readBy : MethodName := ⟨RX7, "readBy", "(III)V"⟩
abbrev cX7_valley : ByteArray := prog_9_method_23_code
def yX7_valley : MethodName := ⟨RX7, "valley", "(I)I"⟩
abbrev cX7_takeHalf : ByteArray := prog_9_method_24_code
def yX7_takeHalf : MethodName := ⟨RX7, "takeHalf", "([I)V"⟩
abbrev cX7_take : ByteArray := prog_9_method_25_code
def yX7_take : MethodName := ⟨RX7, "take", "()V"⟩
abbrev cX7_fault : ByteArray := prog_9_method_26_code
def yX7_fault : MethodName := ⟨RX7, "fault", "()I"⟩
abbrev cX7_anew : ByteArray := prog_9_method_27_code
def yX7_anew : MethodName := ⟨RX7, "anew", "([I)V"⟩
abbrev cX7_be : ByteArray := prog_9_method_28_code
def yX7_be : MethodName := ⟨RX7, "be", "([I[I)V"⟩
abbrev cX7_isOut : ByteArray := prog_9_method_29_code
def yX7_isOut : MethodName := ⟨RX7, "isOut", "([II)Z"⟩
abbrev cX7_farOf : ByteArray := prog_9_method_30_code
def yX7_farOf : MethodName := ⟨RX7, "farOf", "([III)I"⟩
abbrev cX7_hides : ByteArray := prog_9_method_31_code
def yX7_hides : MethodName := ⟨RX7, "hides", "(III)Z"⟩
abbrev cX7_stays : ByteArray := prog_9_method_32_code
def yX7_stays : MethodName := ⟨RX7, "stays", "([III)Z"⟩
abbrev cX7_towards : ByteArray := prog_9_method_33_code
def yX7_towards : MethodName := ⟨RX7, "towards", "([IIII)I"⟩
abbrev cX7_mostOf : ByteArray := prog_9_method_34_code
def yX7_mostOf : MethodName := ⟨RX7, "mostOf", "(III)I"⟩
abbrev cX7_moveOne : ByteArray := prog_9_method_35_code
def yX7_moveOne : MethodName := ⟨RX7, "moveOne", "([IIIII)V"⟩
abbrev cX7_goNear : ByteArray := prog_9_method_36_code
def yX7_goNear : MethodName := ⟨RX7, "goNear", "([III)Z"⟩
abbrev cX7_goNight : ByteArray := prog_9_method_37_code
def yX7_goNight : MethodName := ⟨RX7, "goNight", "([II[II)I"⟩
abbrev cX7_couples : ByteArray := prog_9_method_38_code
def yX7_couples : MethodName := ⟨RX7, "couples", "([I)I"⟩
abbrev cX7_count : ByteArray := prog_9_method_39_code
def yX7_count : MethodName := ⟨RX7, "count", "(I)I"⟩
abbrev cX7_lamp : ByteArray := prog_9_method_40_code
def yX7_lamp : MethodName := ⟨RX7, "lamp", "(II)I"⟩
abbrev cX7_far : ByteArray := prog_9_method_41_code
def yX7_far : MethodName := ⟨RX7, "far", "(II)I"⟩
abbrev cX7_outOf : ByteArray := prog_9_method_42_code
def yX7_outOf : MethodName := ⟨RX7, "outOf", "([I)I"⟩
abbrev cX7_nights : ByteArray := prog_9_method_43_code
def yX7_nights : MethodName := ⟨RX7, "nights", "(I)I"⟩
abbrev cX7_undo : ByteArray := prog_9_method_44_code
def yX7_undo : MethodName := ⟨RX7, "undo", "(I)I"⟩
abbrev cX7_book : ByteArray := prog_9_method_45_code
def yX7_book : MethodName := ⟨RX7, "book", "(III)I"⟩
abbrev cX7_give : ByteArray := prog_9_method_46_code
def yX7_give : MethodName := ⟨RX7, "give", "([III)V"⟩
abbrev cX7_drop : ByteArray := prog_9_method_47_code
def yX7_drop : MethodName := ⟨RX7, "drop", "(III)Z"⟩
abbrev cX7_isAs : ByteArray := prog_9_method_48_code
def yX7_isAs : MethodName := ⟨RX7, "isAs", "(II)Z"⟩
abbrev cX7_roundBy : ByteArray := prog_9_method_49_code
def yX7_roundBy : MethodName := ⟨RX7, "roundBy", "()I"⟩
abbrev cX7_end : ByteArray := prog_9_method_50_code
def yX7_end : MethodName := ⟨RX7, "end", "(I)I"⟩
abbrev cX7_matches : ByteArray := prog_9_method_51_code
def yX7_matches : MethodName := ⟨RX7, "matches", "(I)I"⟩
abbrev cX7_goOn : ByteArray := prog_9_method_52_code
def yX7_goOn : MethodName := ⟨RX7, "goOn", "()V"⟩
abbrev cX7_weds : ByteArray := prog_9_method_53_code
def yX7_weds : MethodName := ⟨RX7, "weds", "(I)I"⟩
abbrev cX7_canGive : ByteArray := prog_9_method_54_code
def yX7_canGive : MethodName := ⟨RX7, "canGive", "(II)Z"⟩
abbrev cX7_mother : ByteArray := prog_9_method_55_code
def yX7_mother : MethodName := ⟨RX7, "mother", "(II)I"⟩
abbrev cX7_isRow : ByteArray := prog_9_method_56_code
def yX7_isRow : MethodName := ⟨RX7, "isRow", "(I)Z"⟩
abbrev cX7_powerOf9 : ByteArray := prog_9_method_57_code
def yX7_powerOf9 : MethodName := ⟨RX7, "powerOf9", "(I)I"⟩
abbrev cX7_tellRow : ByteArray := prog_9_method_58_code
def yX7_tellRow : MethodName := ⟨RX7, "tellRow", "(I)V"⟩
abbrev cX7_rests : ByteArray := prog_9_method_59_code
def yX7_rests : MethodName := ⟨RX7, "rests", "(I)Z"⟩
abbrev cX7_mothers : ByteArray := prog_9_method_60_code
def yX7_mothers : MethodName := ⟨RX7, "mothers", "(II)I"⟩
abbrev cX7_byTens : ByteArray := prog_9_method_61_code
def yX7_byTens : MethodName := ⟨RX7, "byTens", "(I)I"⟩
abbrev cX7_movesTo : ByteArray := prog_9_method_62_code
def yX7_movesTo : MethodName := ⟨RX7, "movesTo", "([IIII[II)Z"⟩
abbrev cX7_mayOf : ByteArray := prog_9_method_63_code
def yX7_mayOf : MethodName := ⟨RX7, "mayOf", "(I)I"⟩
abbrev cX7_fitsBook : ByteArray := prog_9_method_64_code
def yX7_fitsBook : MethodName := ⟨RX7, "fitsBook", "(II)Z"⟩
abbrev cX7_may : ByteArray := prog_9_method_65_code
def yX7_may : MethodName := ⟨RX7, "may", "(I)I"⟩
abbrev cX7_leftBy : ByteArray := prog_9_method_66_code
def yX7_leftBy : MethodName := ⟨RX7, "leftBy", "(III)I"⟩
abbrev cX7_tells : ByteArray := prog_9_method_67_code
def yX7_tells : MethodName := ⟨RX7, "tells", "(II)I"⟩
abbrev cX7_near : ByteArray := prog_9_method_68_code
def yX7_near : MethodName := ⟨RX7, "near", "(I)I"⟩
abbrev cX7_other : ByteArray := prog_9_method_69_code
def yX7_other : MethodName := ⟨RX7, "other", "(II)I"⟩
abbrev cX7_drawLiked : ByteArray := prog_9_method_70_code
def yX7_drawLiked : MethodName := ⟨RX7, "drawLiked", "()V"⟩
abbrev cX7_years : ByteArray := prog_9_method_71_code
def yX7_years : MethodName := ⟨RX7, "years", "(III)I"⟩
abbrev cX7_image : ByteArray := prog_9_method_72_code
def yX7_image : MethodName := ⟨RX7, "image", "()V"⟩
abbrev cX7_restore : ByteArray := prog_9_method_73_code
def yX7_restore : MethodName := ⟨RX7, "restore", "()Z"⟩
def RJx145de : String := "java/io/Serializable"
def TJx145de : u_T := fun k => match k with
  | _ => ("", "", "", false)
def tyJx145de : Nat → FieldType := fun k => match k with
  | _ => .int
abbrev wsJx145de0 : List Cond := u_ws RJx145de TJx145de 0
theorem nmJx145de : ∀ a, a < 0 → ∀ b, b < 0 → a ≠ b → (TJx145de a).2.1 ≠ (TJx145de b).2.1 := by decide +kernel
theorem tyJx145de_ok : ∀ k, k < 0 → parseFieldDescriptor (TJx145de k).2.2.1 = some (tyJx145de k) := by decide +kernel
def RJx9f9b0 : String := "java/lang/CharSequence"
def TJx9f9b0 : u_T := fun k => match k with
  | _ => ("", "", "", false)
def tyJx9f9b0 : Nat → FieldType := fun k => match k with
  | _ => .int
abbrev wsJx9f9b00 : List Cond := u_ws RJx9f9b0 TJx9f9b0 0
theorem nmJx9f9b0 : ∀ a, a < 0 → ∀ b, b < 0 → a ≠ b → (TJx9f9b0 a).2.1 ≠ (TJx9f9b0 b).2.1 := by decide +kernel
theorem tyJx9f9b0_ok : ∀ k, k < 0 → parseFieldDescriptor (TJx9f9b0 k).2.2.1 = some (tyJx9f9b0 k) := by decide +kernel
def RJxb160c : String := "java/lang/Comparable"
def TJxb160c : u_T := fun k => match k with
  | _ => ("", "", "", false)
def tyJxb160c : Nat → FieldType := fun k => match k with
  | _ => .int
abbrev wsJxb160c0 : List Cond := u_ws RJxb160c TJxb160c 0
theorem nmJxb160c : ∀ a, a < 0 → ∀ b, b < 0 → a ≠ b → (TJxb160c a).2.1 ≠ (TJxb160c b).2.1 := by decide +kernel
theorem tyJxb160c_ok : ∀ k, k < 0 → parseFieldDescriptor (TJxb160c k).2.2.1 = some (tyJxb160c k) := by decide +kernel
def RJ6 : String := "java/lang/Integer"
def TJ6 : u_T := fun k => match k with
  | _ => ("", "", "", false)
def tyJ6 : Nat → FieldType := fun k => match k with
  | _ => .int
abbrev wsJ60 : List Cond := u_ws RJ6 TJ6 0
theorem nmJ6 : ∀ a, a < 0 → ∀ b, b < 0 → a ≠ b → (TJ6 a).2.1 ≠ (TJ6 b).2.1 := by decide +kernel
theorem tyJ6_ok : ∀ k, k < 0 → parseFieldDescriptor (TJ6 k).2.2.1 = some (tyJ6 k) := by decide +kernel
abbrev cJ6_bitCount_0f7a4 : ByteArray := prog_15_method_49_code
def yJ6_bitCount_0f7a4 : MethodName := ⟨RJ6, "bitCount", "(I)I"⟩
def RJ9 : String := "java/lang/Math"
def TJ9 : u_T := fun k => match k with
  | _ => ("", "", "", false)
def tyJ9 : Nat → FieldType := fun k => match k with
  | _ => .int
abbrev wsJ90 : List Cond := u_ws RJ9 TJ9 0
theorem nmJ9 : ∀ a, a < 0 → ∀ b, b < 0 → a ≠ b → (TJ9 a).2.1 ≠ (TJ9 b).2.1 := by decide +kernel
theorem tyJ9_ok : ∀ k, k < 0 → parseFieldDescriptor (TJ9 k).2.2.1 = some (tyJ9 k) := by decide +kernel
abbrev cJ9_abs_0f7a4 : ByteArray := prog_16_method_59_code
def yJ9_abs_0f7a4 : MethodName := ⟨RJ9, "abs", "(I)I"⟩
abbrev cJ9_max_7cf53 : ByteArray := prog_16_method_65_code
def yJ9_max_7cf53 : MethodName := ⟨RJ9, "max", "(II)I"⟩
abbrev cJ9_min_7cf53 : ByteArray := prog_16_method_69_code
def yJ9_min_7cf53 : MethodName := ⟨RJ9, "min", "(II)I"⟩
def RJ0 : String := "java/lang/String"
def TJ0 : u_T := fun k => match k with
  | _ => ("", "", "", false)
def tyJ0 : Nat → FieldType := fun k => match k with
  | _ => .int
abbrev wsJ00 : List Cond := u_ws RJ0 TJ0 0
theorem nmJ0 : ∀ a, a < 0 → ∀ b, b < 0 → a ≠ b → (TJ0 a).2.1 ≠ (TJ0 b).2.1 := by decide +kernel
theorem tyJ0_ok : ∀ k, k < 0 → parseFieldDescriptor (TJ0 k).2.2.1 = some (tyJ0 k) := by decide +kernel
abbrev cJ0_length_8abf5 : ByteArray := prog_18_method_54_code
def yJ0_length_8abf5 : MethodName := ⟨RJ0, "length", "()I"⟩
abbrev cJ0_charAt_5068e : ByteArray := prog_18_method_56_code
def yJ0_charAt_5068e : MethodName := ⟨RJ0, "charAt", "(I)C"⟩
abbrev cJ0_coder_7d493 : ByteArray := prog_18_method_152_code
def yJ0_coder_7d493 : MethodName := ⟨RJ0, "coder", "()B"⟩
abbrev cJ0_isLatin1_aae02 : ByteArray := prog_18_method_154_code
def yJ0_isLatin1_aae02 : MethodName := ⟨RJ0, "isLatin1", "()Z"⟩
abbrev cJ0_checkIndex_df160 : ByteArray := prog_18_method_155_code
def yJ0_checkIndex_df160 : MethodName := ⟨RJ0, "checkIndex", "(II)V"⟩
def RJ1 : String := "java/lang/StringLatin1"
def TJ1 : u_T := fun k => match k with
  | _ => ("", "", "", false)
def tyJ1 : Nat → FieldType := fun k => match k with
  | _ => .int
abbrev wsJ10 : List Cond := u_ws RJ1 TJ1 0
theorem nmJ1 : ∀ a, a < 0 → ∀ b, b < 0 → a ≠ b → (TJ1 a).2.1 ≠ (TJ1 b).2.1 := by decide +kernel
theorem tyJ1_ok : ∀ k, k < 0 → parseFieldDescriptor (TJ1 k).2.2.1 = some (tyJ1 k) := by decide +kernel
abbrev cJ1_charAt_3b067 : ByteArray := prog_19_method_2_code
def yJ1_charAt_3b067 : MethodName := ⟨RJ1, "charAt", "([BI)C"⟩
def RJ2 : String := "java/lang/StringUTF16"
def TJ2 : u_T := fun k => match k with
  | _ => ("", "", "", false)
def tyJ2 : Nat → FieldType := fun k => match k with
  | _ => .int
abbrev wsJ20 : List Cond := u_ws RJ2 TJ2 0
theorem nmJ2 : ∀ a, a < 0 → ∀ b, b < 0 → a ≠ b → (TJ2 a).2.1 ≠ (TJ2 b).2.1 := by decide +kernel
theorem tyJ2_ok : ∀ k, k < 0 → parseFieldDescriptor (TJ2 k).2.2.1 = some (tyJ2 k) := by decide +kernel
abbrev cJ2_getChar_3b067 : ByteArray := prog_20_method_5_code
def yJ2_getChar_3b067 : MethodName := ⟨RJ2, "getChar", "([BI)C"⟩
abbrev cJ2_length_9d52b : ByteArray := prog_20_method_6_code
def yJ2_length_9d52b : MethodName := ⟨RJ2, "length", "([B)I"⟩
abbrev cJ2_charAt_3b067 : ByteArray := prog_20_method_83_code
def yJ2_charAt_3b067 : MethodName := ⟨RJ2, "charAt", "([BI)C"⟩
abbrev cJ2_checkIndex_2214a : ByteArray := prog_20_method_91_code
def yJ2_checkIndex_2214a : MethodName := ⟨RJ2, "checkIndex", "(I[B)V"⟩
def RJ10 : String := "java/lang/System"
def TJ10 : u_T := fun k => match k with
  | _ => ("", "", "", false)
def tyJ10 : Nat → FieldType := fun k => match k with
  | _ => .int
abbrev wsJ100 : List Cond := u_ws RJ10 TJ10 0
theorem nmJ10 : ∀ a, a < 0 → ∀ b, b < 0 → a ≠ b → (TJ10 a).2.1 ≠ (TJ10 b).2.1 := by decide +kernel
theorem tyJ10_ok : ∀ k, k < 0 → parseFieldDescriptor (TJ10 k).2.2.1 = some (tyJ10 k) := by decide +kernel
def RJxfd54e : String := "java/lang/constant/Constable"
def TJxfd54e : u_T := fun k => match k with
  | _ => ("", "", "", false)
def tyJxfd54e : Nat → FieldType := fun k => match k with
  | _ => .int
abbrev wsJxfd54e0 : List Cond := u_ws RJxfd54e TJxfd54e 0
theorem nmJxfd54e : ∀ a, a < 0 → ∀ b, b < 0 → a ≠ b → (TJxfd54e a).2.1 ≠ (TJxfd54e b).2.1 := by decide +kernel
theorem tyJxfd54e_ok : ∀ k, k < 0 → parseFieldDescriptor (TJxfd54e k).2.2.1 = some (tyJxfd54e k) := by decide +kernel
def RJx3cf43 : String := "java/lang/constant/ConstantDesc"
def TJx3cf43 : u_T := fun k => match k with
  | _ => ("", "", "", false)
def tyJx3cf43 : Nat → FieldType := fun k => match k with
  | _ => .int
abbrev wsJx3cf430 : List Cond := u_ws RJx3cf43 TJx3cf43 0
theorem nmJx3cf43 : ∀ a, a < 0 → ∀ b, b < 0 → a ≠ b → (TJx3cf43 a).2.1 ≠ (TJx3cf43 b).2.1 := by decide +kernel
theorem tyJx3cf43_ok : ∀ k, k < 0 → parseFieldDescriptor (TJx3cf43 k).2.2.1 = some (tyJx3cf43 k) := by decide +kernel
def RJ3 : String := "jdk/internal/util/Preconditions"
def TJ3 : u_T := fun k => match k with
  | _ => ("", "", "", false)
def tyJ3 : Nat → FieldType := fun k => match k with
  | _ => .int
abbrev wsJ30 : List Cond := u_ws RJ3 TJ3 0
theorem nmJ3 : ∀ a, a < 0 → ∀ b, b < 0 → a ≠ b → (TJ3 a).2.1 ≠ (TJ3 b).2.1 := by decide +kernel
theorem tyJ3_ok : ∀ k, k < 0 → parseFieldDescriptor (TJ3 k).2.2.1 = some (tyJ3 k) := by decide +kernel
abbrev cJ3_checkIndex_8e157 : ByteArray := prog_26_method_11_code
def yJ3_checkIndex_8e157 : MethodName := ⟨RJ3, "checkIndex", "(IILjava/util/function/BiFunction;)I"⟩
def RL : String := "LampValleyLaw"
abbrev cL_valley : ByteArray := method_3_code
def yL_valley : MethodName := ⟨RL, "valley", "(LLampValley;I[J)I"⟩
abbrev cL_count : ByteArray := method_4_code
def yL_count : MethodName := ⟨RL, "count", "(LLampValley;I[J)I"⟩
abbrev cL_lamp : ByteArray := method_5_code
def yL_lamp : MethodName := ⟨RL, "lamp", "(LLampValley;II[J)I"⟩
abbrev cL_far : ByteArray := method_6_code
def yL_far : MethodName := ⟨RL, "far", "(LLampValley;II[J)I"⟩
abbrev cL_nights : ByteArray := method_7_code
def yL_nights : MethodName := ⟨RL, "nights", "(LLampValley;I[J)I"⟩
abbrev cL_undo : ByteArray := method_8_code
def yL_undo : MethodName := ⟨RL, "undo", "(LLampValley;I[J)I"⟩
abbrev cL_book : ByteArray := method_9_code
def yL_book : MethodName := ⟨RL, "book", "(LLampValley;III[J)I"⟩
abbrev cL_drop : ByteArray := method_10_code
def yL_drop : MethodName := ⟨RL, "drop", "(LLampValley;III[J)I"⟩
abbrev cL_end : ByteArray := method_11_code
def yL_end : MethodName := ⟨RL, "end", "(LLampValley;I[J)I"⟩
abbrev cL_matches : ByteArray := method_12_code
def yL_matches : MethodName := ⟨RL, "matches", "(LLampValley;I[J)I"⟩
abbrev cL_mother : ByteArray := method_13_code
def yL_mother : MethodName := ⟨RL, "mother", "(LLampValley;II[J)I"⟩
abbrev cL_mothers : ByteArray := method_14_code
def yL_mothers : MethodName := ⟨RL, "mothers", "(LLampValley;II[J)I"⟩
abbrev cL_may : ByteArray := method_15_code
def yL_may : MethodName := ⟨RL, "may", "(LLampValley;I[J)I"⟩
abbrev cL_tells : ByteArray := method_16_code
def yL_tells : MethodName := ⟨RL, "tells", "(LLampValley;II[J)I"⟩
abbrev cL_near : ByteArray := method_17_code
def yL_near : MethodName := ⟨RL, "near", "(LLampValley;I[J)I"⟩
abbrev cL_years : ByteArray := method_18_code
def yL_years : MethodName := ⟨RL, "years", "(LLampValley;III[J)I"⟩
abbrev cL_law : ByteArray := code
def yL_law : MethodName := ⟨RL, "law", "([I)Z"⟩
abbrev vwCl : List vw_C := [(RX0, TX0, 5), (RX1, TX1, 10), (RX2, TX2, 6), (RX3, TX3, 4), (RX4, TX4, 14), (RX5, TX5, 5), (RX6, TX6, 15), (RX7, TX7, 48)]
end
section
theorem dX0_init_0 : decode cX0_init 0 = .ok (.aload_n 0, 1) := by decide +kernel
theorem dX0_init_1 : decode cX0_init 1 = .ok (.invokespecial 3, 3) := by decide +kernel
theorem dX0_init_4 : decode cX0_init 4 = .ok (.aload_n 0, 1) := by decide +kernel
theorem dX0_init_5 : decode cX0_init 5 = .ok (.iconst 3, 1) := by decide +kernel
theorem dX0_init_6 : decode cX0_init 6 = .ok (.newarray .int, 2) := by decide +kernel
theorem dX0_init_8 : decode cX0_init 8 = .ok (.putfield 11, 3) := by decide +kernel
theorem dX0_init_11 : decode cX0_init 11 = .ok (.aload_n 0, 1) := by decide +kernel
theorem dX0_init_12 : decode cX0_init 12 = .ok (.iconst 3, 1) := by decide +kernel
theorem dX0_init_13 : decode cX0_init 13 = .ok (.newarray .int, 2) := by decide +kernel
theorem dX0_init_15 : decode cX0_init 15 = .ok (.putfield 15, 3) := by decide +kernel
theorem dX0_init_18 : decode cX0_init 18 = .ok (.aload_n 0, 1) := by decide +kernel
theorem dX0_init_19 : decode cX0_init 19 = .ok (.sipush 1029, 3) := by decide +kernel
theorem dX0_init_22 : decode cX0_init 22 = .ok (.newarray .int, 2) := by decide +kernel
theorem dX0_init_24 : decode cX0_init 24 = .ok (.putfield 18, 3) := by decide +kernel
theorem dX0_init_27 : decode cX0_init 27 = .ok (.return_, 1) := by decide +kernel
theorem dX0_hear_0 : decode cX0_hear 0 = .ok (.aload_n 0, 1) := by decide +kernel
theorem dX0_hear_1 : decode cX0_hear 1 = .ok (.iload 4, 2) := by decide +kernel
theorem dX0_hear_3 : decode cX0_hear 3 = .ok (.invokevirtual 21, 3) := by decide +kernel
theorem dX0_hear_6 : decode cX0_hear 6 = .ok (.iconst 0, 1) := by decide +kernel
theorem dX0_hear_7 : decode cX0_hear 7 = .ok (.istore 5, 2) := by decide +kernel
theorem dX0_hear_9 : decode cX0_hear 9 = .ok (.iload 5, 2) := by decide +kernel
theorem dX0_hear_11 : decode cX0_hear 11 = .ok (.aload_n 0, 1) := by decide +kernel
theorem dX0_hear_12 : decode cX0_hear 12 = .ok (.getfield 25, 3) := by decide +kernel
theorem dX0_hear_15 : decode cX0_hear 15 = .ok (.if_icmp .ge 104, 3) := by decide +kernel
theorem dX0_hear_18 : decode cX0_hear 18 = .ok (.aload_n 3, 1) := by decide +kernel
theorem dX0_hear_19 : decode cX0_hear 19 = .ok (.aload_n 2, 1) := by decide +kernel
theorem dX0_hear_20 : decode cX0_hear 20 = .ok (.invokevirtual 29, 3) := by decide +kernel
theorem dX0_hear_23 : decode cX0_hear 23 = .ok (.aload_n 0, 1) := by decide +kernel
theorem dX0_hear_24 : decode cX0_hear 24 = .ok (.aload_n 3, 1) := by decide +kernel
theorem dX0_hear_25 : decode cX0_hear 25 = .ok (.iload 5, 2) := by decide +kernel
theorem dX0_hear_27 : decode cX0_hear 27 = .ok (.invokevirtual 35, 3) := by decide +kernel
theorem dX0_hear_30 : decode cX0_hear 30 = .ok (.istore 6, 2) := by decide +kernel
theorem dX0_hear_32 : decode cX0_hear 32 = .ok (.iload 6, 2) := by decide +kernel
theorem dX0_hear_34 : decode cX0_hear 34 = .ok (.ifCond .eq 10, 3) := by decide +kernel
theorem dX0_hear_37 : decode cX0_hear 37 = .ok (.aload_n 1, 1) := by decide +kernel
theorem dX0_hear_38 : decode cX0_hear 38 = .ok (.aload_n 3, 1) := by decide +kernel
theorem dX0_hear_39 : decode cX0_hear 39 = .ok (.iload 4, 2) := by decide +kernel
theorem dX0_hear_41 : decode cX0_hear 41 = .ok (.invokevirtual 39, 3) := by decide +kernel
theorem dX0_hear_44 : decode cX0_hear 44 = .ok (.iconst 0, 1) := by decide +kernel
theorem dX0_hear_45 : decode cX0_hear 45 = .ok (.istore 7, 2) := by decide +kernel
theorem dX0_hear_47 : decode cX0_hear 47 = .ok (.iload 7, 2) := by decide +kernel
theorem dX0_hear_49 : decode cX0_hear 49 = .ok (.aload_n 0, 1) := by decide +kernel
theorem dX0_hear_50 : decode cX0_hear 50 = .ok (.getfield 45, 3) := by decide +kernel
theorem dX0_hear_53 : decode cX0_hear 53 = .ok (.if_icmp .ge 60, 3) := by decide +kernel
theorem dX0_hear_56 : decode cX0_hear 56 = .ok (.iload 6, 2) := by decide +kernel
theorem dX0_hear_58 : decode cX0_hear 58 = .ok (.ifCond .eq 18, 3) := by decide +kernel
theorem dX0_hear_61 : decode cX0_hear 61 = .ok (.aload_n 1, 1) := by decide +kernel
theorem dX0_hear_62 : decode cX0_hear 62 = .ok (.aload_n 3, 1) := by decide +kernel
theorem dX0_hear_63 : decode cX0_hear 63 = .ok (.aload_n 0, 1) := by decide +kernel
theorem dX0_hear_64 : decode cX0_hear 64 = .ok (.getfield 11, 3) := by decide +kernel
theorem dX0_hear_67 : decode cX0_hear 67 = .ok (.iload 7, 2) := by decide +kernel
theorem dX0_hear_69 : decode cX0_hear 69 = .ok (.iaload, 1) := by decide +kernel
theorem dX0_hear_70 : decode cX0_hear 70 = .ok (.invokevirtual 48, 3) := by decide +kernel
theorem dX0_hear_73 : decode cX0_hear 73 = .ok (.goto 6, 3) := by decide +kernel
theorem dX0_hear_76 : decode cX0_hear 76 = .ok (.sipush 1001, 3) := by decide +kernel
theorem dX0_hear_79 : decode cX0_hear 79 = .ok (.istore 8, 2) := by decide +kernel
theorem dX0_hear_81 : decode cX0_hear 81 = .ok (.aload_n 0, 1) := by decide +kernel
theorem dX0_hear_82 : decode cX0_hear 82 = .ok (.getfield 18, 3) := by decide +kernel
theorem dX0_hear_85 : decode cX0_hear 85 = .ok (.iload 5, 2) := by decide +kernel
theorem dX0_hear_87 : decode cX0_hear 87 = .ok (.iconst 3, 1) := by decide +kernel
theorem dX0_hear_88 : decode cX0_hear 88 = .ok (.imul, 1) := by decide +kernel
theorem dX0_hear_89 : decode cX0_hear 89 = .ok (.iload 7, 2) := by decide +kernel
theorem dX0_hear_91 : decode cX0_hear 91 = .ok (.iadd, 1) := by decide +kernel
theorem dX0_hear_92 : decode cX0_hear 92 = .ok (.iload 8, 2) := by decide +kernel
theorem dX0_hear_94 : decode cX0_hear 94 = .ok (.iconst (-1), 1) := by decide +kernel
theorem dX0_hear_95 : decode cX0_hear 95 = .ok (.if_icmp .ne 9, 3) := by decide +kernel
theorem dX0_hear_98 : decode cX0_hear 98 = .ok (.sipush 1000, 3) := by decide +kernel
theorem dX0_hear_101 : decode cX0_hear 101 = .ok (.goto 5, 3) := by decide +kernel
theorem dX0_hear_104 : decode cX0_hear 104 = .ok (.iload 8, 2) := by decide +kernel
theorem dX0_hear_106 : decode cX0_hear 106 = .ok (.iastore, 1) := by decide +kernel
theorem dX0_hear_107 : decode cX0_hear 107 = .ok (.iinc 7 1, 3) := by decide +kernel
theorem dX0_hear_110 : decode cX0_hear 110 = .ok (.goto (-63), 3) := by decide +kernel
theorem dX0_hear_113 : decode cX0_hear 113 = .ok (.iinc 5 1, 3) := by decide +kernel
theorem dX0_hear_116 : decode cX0_hear 116 = .ok (.goto (-107), 3) := by decide +kernel
theorem dX0_hear_119 : decode cX0_hear 119 = .ok (.return_, 1) := by decide +kernel
theorem dX0_seat_0 : decode cX0_seat 0 = .ok (.aload_n 0, 1) := by decide +kernel
theorem dX0_seat_1 : decode cX0_seat 1 = .ok (.iconst 0, 1) := by decide +kernel
theorem dX0_seat_2 : decode cX0_seat 2 = .ok (.putfield 45, 3) := by decide +kernel
theorem dX0_seat_5 : decode cX0_seat 5 = .ok (.aload_n 0, 1) := by decide +kernel
theorem dX0_seat_6 : decode cX0_seat 6 = .ok (.iconst 1, 1) := by decide +kernel
theorem dX0_seat_7 : decode cX0_seat 7 = .ok (.putfield 25, 3) := by decide +kernel
theorem dX0_seat_10 : decode cX0_seat 10 = .ok (.iconst 5, 1) := by decide +kernel
theorem dX0_seat_11 : decode cX0_seat 11 = .ok (.istore_n 2, 1) := by decide +kernel
theorem dX0_seat_12 : decode cX0_seat 12 = .ok (.iload_n 2, 1) := by decide +kernel
theorem dX0_seat_13 : decode cX0_seat 13 = .ok (.ifCond .lt 69, 3) := by decide +kernel
theorem dX0_seat_16 : decode cX0_seat 16 = .ok (.iload_n 1, 1) := by decide +kernel
theorem dX0_seat_17 : decode cX0_seat 17 = .ok (.iload_n 2, 1) := by decide +kernel
theorem dX0_seat_18 : decode cX0_seat 18 = .ok (.iushr, 1) := by decide +kernel
theorem dX0_seat_19 : decode cX0_seat 19 = .ok (.iconst 1, 1) := by decide +kernel
theorem dX0_seat_20 : decode cX0_seat 20 = .ok (.iand, 1) := by decide +kernel
theorem dX0_seat_21 : decode cX0_seat 21 = .ok (.ifCond .eq 55, 3) := by decide +kernel
theorem dX0_seat_24 : decode cX0_seat 24 = .ok (.aload_n 0, 1) := by decide +kernel
theorem dX0_seat_25 : decode cX0_seat 25 = .ok (.getfield 45, 3) := by decide +kernel
theorem dX0_seat_28 : decode cX0_seat 28 = .ok (.iconst 3, 1) := by decide +kernel
theorem dX0_seat_29 : decode cX0_seat 29 = .ok (.if_icmp .ge 47, 3) := by decide +kernel
theorem dX0_seat_32 : decode cX0_seat 32 = .ok (.aload_n 0, 1) := by decide +kernel
theorem dX0_seat_33 : decode cX0_seat 33 = .ok (.getfield 11, 3) := by decide +kernel
theorem dX0_seat_36 : decode cX0_seat 36 = .ok (.aload_n 0, 1) := by decide +kernel
theorem dX0_seat_37 : decode cX0_seat 37 = .ok (.getfield 45, 3) := by decide +kernel
theorem dX0_seat_40 : decode cX0_seat 40 = .ok (.iload_n 2, 1) := by decide +kernel
theorem dX0_seat_41 : decode cX0_seat 41 = .ok (.iastore, 1) := by decide +kernel
theorem dX0_seat_42 : decode cX0_seat 42 = .ok (.aload_n 0, 1) := by decide +kernel
theorem dX0_seat_43 : decode cX0_seat 43 = .ok (.getfield 15, 3) := by decide +kernel
theorem dX0_seat_46 : decode cX0_seat 46 = .ok (.aload_n 0, 1) := by decide +kernel
theorem dX0_seat_47 : decode cX0_seat 47 = .ok (.getfield 45, 3) := by decide +kernel
theorem dX0_seat_50 : decode cX0_seat 50 = .ok (.aload_n 0, 1) := by decide +kernel
theorem dX0_seat_51 : decode cX0_seat 51 = .ok (.getfield 25, 3) := by decide +kernel
theorem dX0_seat_54 : decode cX0_seat 54 = .ok (.iastore, 1) := by decide +kernel
theorem dX0_seat_55 : decode cX0_seat 55 = .ok (.aload_n 0, 1) := by decide +kernel
theorem dX0_seat_56 : decode cX0_seat 56 = .ok (.dup, 1) := by decide +kernel
theorem dX0_seat_57 : decode cX0_seat 57 = .ok (.getfield 25, 3) := by decide +kernel
theorem dX0_seat_60 : decode cX0_seat 60 = .ok (.bipush 7, 2) := by decide +kernel
theorem dX0_seat_62 : decode cX0_seat 62 = .ok (.imul, 1) := by decide +kernel
theorem dX0_seat_63 : decode cX0_seat 63 = .ok (.putfield 25, 3) := by decide +kernel
theorem dX0_seat_66 : decode cX0_seat 66 = .ok (.aload_n 0, 1) := by decide +kernel
theorem dX0_seat_67 : decode cX0_seat 67 = .ok (.dup, 1) := by decide +kernel
theorem dX0_seat_68 : decode cX0_seat 68 = .ok (.getfield 45, 3) := by decide +kernel
theorem dX0_seat_71 : decode cX0_seat 71 = .ok (.iconst 1, 1) := by decide +kernel
theorem dX0_seat_72 : decode cX0_seat 72 = .ok (.iadd, 1) := by decide +kernel
theorem dX0_seat_73 : decode cX0_seat 73 = .ok (.putfield 45, 3) := by decide +kernel
theorem dX0_seat_76 : decode cX0_seat 76 = .ok (.iinc 2 (-1), 3) := by decide +kernel
theorem dX0_seat_79 : decode cX0_seat 79 = .ok (.goto (-67), 3) := by decide +kernel
theorem dX0_seat_82 : decode cX0_seat 82 = .ok (.return_, 1) := by decide +kernel
theorem dX0_choiceOf_0 : decode cX0_choiceOf 0 = .ok (.aload_n 0, 1) := by decide +kernel
theorem dX0_choiceOf_1 : decode cX0_choiceOf 1 = .ok (.getfield 15, 3) := by decide +kernel
theorem dX0_choiceOf_4 : decode cX0_choiceOf 4 = .ok (.iload_n 2, 1) := by decide +kernel
theorem dX0_choiceOf_5 : decode cX0_choiceOf 5 = .ok (.iaload, 1) := by decide +kernel
theorem dX0_choiceOf_6 : decode cX0_choiceOf 6 = .ok (.ifCond .le 17, 3) := by decide +kernel
theorem dX0_choiceOf_9 : decode cX0_choiceOf 9 = .ok (.iload_n 1, 1) := by decide +kernel
theorem dX0_choiceOf_10 : decode cX0_choiceOf 10 = .ok (.aload_n 0, 1) := by decide +kernel
theorem dX0_choiceOf_11 : decode cX0_choiceOf 11 = .ok (.getfield 15, 3) := by decide +kernel
theorem dX0_choiceOf_14 : decode cX0_choiceOf 14 = .ok (.iload_n 2, 1) := by decide +kernel
theorem dX0_choiceOf_15 : decode cX0_choiceOf 15 = .ok (.iaload, 1) := by decide +kernel
theorem dX0_choiceOf_16 : decode cX0_choiceOf 16 = .ok (.idiv, 1) := by decide +kernel
theorem dX0_choiceOf_17 : decode cX0_choiceOf 17 = .ok (.bipush 7, 2) := by decide +kernel
theorem dX0_choiceOf_19 : decode cX0_choiceOf 19 = .ok (.irem, 1) := by decide +kernel
theorem dX0_choiceOf_20 : decode cX0_choiceOf 20 = .ok (.goto 4, 3) := by decide +kernel
theorem dX0_choiceOf_23 : decode cX0_choiceOf 23 = .ok (.iconst 0, 1) := by decide +kernel
theorem dX0_choiceOf_24 : decode cX0_choiceOf 24 = .ok (.ireturn, 1) := by decide +kernel
theorem dX0_giveRow_0 : decode cX0_giveRow 0 = .ok (.iconst 0, 1) := by decide +kernel
theorem dX0_giveRow_1 : decode cX0_giveRow 1 = .ok (.istore_n 3, 1) := by decide +kernel
theorem dX0_giveRow_2 : decode cX0_giveRow 2 = .ok (.iload_n 3, 1) := by decide +kernel
theorem dX0_giveRow_3 : decode cX0_giveRow 3 = .ok (.aload_n 0, 1) := by decide +kernel
theorem dX0_giveRow_4 : decode cX0_giveRow 4 = .ok (.getfield 45, 3) := by decide +kernel
theorem dX0_giveRow_7 : decode cX0_giveRow 7 = .ok (.if_icmp .ge 50, 3) := by decide +kernel
theorem dX0_giveRow_10 : decode cX0_giveRow 10 = .ok (.getstatic 52, 3) := by decide +kernel
theorem dX0_giveRow_13 : decode cX0_giveRow 13 = .ok (.aload_n 0, 1) := by decide +kernel
theorem dX0_giveRow_14 : decode cX0_giveRow 14 = .ok (.iload_n 2, 1) := by decide +kernel
theorem dX0_giveRow_15 : decode cX0_giveRow 15 = .ok (.iload_n 3, 1) := by decide +kernel
theorem dX0_giveRow_16 : decode cX0_giveRow 16 = .ok (.invokevirtual 55, 3) := by decide +kernel
theorem dX0_giveRow_19 : decode cX0_giveRow 19 = .ok (.iaload, 1) := by decide +kernel
theorem dX0_giveRow_20 : decode cX0_giveRow 20 = .ok (.istore 4, 2) := by decide +kernel
theorem dX0_giveRow_22 : decode cX0_giveRow 22 = .ok (.iload 4, 2) := by decide +kernel
theorem dX0_giveRow_24 : decode cX0_giveRow 24 = .ok (.iconst (-1), 1) := by decide +kernel
theorem dX0_giveRow_25 : decode cX0_giveRow 25 = .ok (.if_icmp .eq 26, 3) := by decide +kernel
theorem dX0_giveRow_28 : decode cX0_giveRow 28 = .ok (.aload_n 1, 1) := by decide +kernel
theorem dX0_giveRow_29 : decode cX0_giveRow 29 = .ok (.aload_n 0, 1) := by decide +kernel
theorem dX0_giveRow_30 : decode cX0_giveRow 30 = .ok (.getfield 11, 3) := by decide +kernel
theorem dX0_giveRow_33 : decode cX0_giveRow 33 = .ok (.iload_n 3, 1) := by decide +kernel
theorem dX0_giveRow_34 : decode cX0_giveRow 34 = .ok (.iaload, 1) := by decide +kernel
theorem dX0_giveRow_35 : decode cX0_giveRow 35 = .ok (.iload 4, 2) := by decide +kernel
theorem dX0_giveRow_37 : decode cX0_giveRow 37 = .ok (.iconst 3, 1) := by decide +kernel
theorem dX0_giveRow_38 : decode cX0_giveRow 38 = .ok (.idiv, 1) := by decide +kernel
theorem dX0_giveRow_39 : decode cX0_giveRow 39 = .ok (.iload 4, 2) := by decide +kernel
theorem dX0_giveRow_41 : decode cX0_giveRow 41 = .ok (.iconst 3, 1) := by decide +kernel
theorem dX0_giveRow_42 : decode cX0_giveRow 42 = .ok (.irem, 1) := by decide +kernel
theorem dX0_giveRow_43 : decode cX0_giveRow 43 = .ok (.invokevirtual 59, 3) := by decide +kernel
theorem dX0_giveRow_46 : decode cX0_giveRow 46 = .ok (.ifCond .ne 5, 3) := by decide +kernel
theorem dX0_giveRow_49 : decode cX0_giveRow 49 = .ok (.iconst 0, 1) := by decide +kernel
theorem dX0_giveRow_50 : decode cX0_giveRow 50 = .ok (.ireturn, 1) := by decide +kernel
theorem dX0_giveRow_51 : decode cX0_giveRow 51 = .ok (.iinc 3 1, 3) := by decide +kernel
theorem dX0_giveRow_54 : decode cX0_giveRow 54 = .ok (.goto (-52), 3) := by decide +kernel
theorem dX0_giveRow_57 : decode cX0_giveRow 57 = .ok (.iconst 1, 1) := by decide +kernel
theorem dX0_giveRow_58 : decode cX0_giveRow 58 = .ok (.ireturn, 1) := by decide +kernel
theorem dX0_rests_0 : decode cX0_rests 0 = .ok (.iconst 0, 1) := by decide +kernel
theorem dX0_rests_1 : decode cX0_rests 1 = .ok (.istore_n 2, 1) := by decide +kernel
theorem dX0_rests_2 : decode cX0_rests 2 = .ok (.iload_n 2, 1) := by decide +kernel
theorem dX0_rests_3 : decode cX0_rests 3 = .ok (.aload_n 0, 1) := by decide +kernel
theorem dX0_rests_4 : decode cX0_rests 4 = .ok (.getfield 45, 3) := by decide +kernel
theorem dX0_rests_7 : decode cX0_rests 7 = .ok (.if_icmp .ge 89, 3) := by decide +kernel
theorem dX0_rests_10 : decode cX0_rests 10 = .ok (.aload_n 0, 1) := by decide +kernel
theorem dX0_rests_11 : decode cX0_rests 11 = .ok (.getfield 18, 3) := by decide +kernel
theorem dX0_rests_14 : decode cX0_rests 14 = .ok (.iload_n 1, 1) := by decide +kernel
theorem dX0_rests_15 : decode cX0_rests 15 = .ok (.iconst 3, 1) := by decide +kernel
theorem dX0_rests_16 : decode cX0_rests 16 = .ok (.imul, 1) := by decide +kernel
theorem dX0_rests_17 : decode cX0_rests 17 = .ok (.iload_n 2, 1) := by decide +kernel
theorem dX0_rests_18 : decode cX0_rests 18 = .ok (.iadd, 1) := by decide +kernel
theorem dX0_rests_19 : decode cX0_rests 19 = .ok (.iaload, 1) := by decide +kernel
theorem dX0_rests_20 : decode cX0_rests 20 = .ok (.istore_n 3, 1) := by decide +kernel
theorem dX0_rests_21 : decode cX0_rests 21 = .ok (.iload_n 3, 1) := by decide +kernel
theorem dX0_rests_22 : decode cX0_rests 22 = .ok (.sipush 1001, 3) := by decide +kernel
theorem dX0_rests_25 : decode cX0_rests 25 = .ok (.if_icmp .ne 5, 3) := by decide +kernel
theorem dX0_rests_28 : decode cX0_rests 28 = .ok (.iconst 0, 1) := by decide +kernel
theorem dX0_rests_29 : decode cX0_rests 29 = .ok (.ireturn, 1) := by decide +kernel
theorem dX0_rests_30 : decode cX0_rests 30 = .ok (.iload_n 1, 1) := by decide +kernel
theorem dX0_rests_31 : decode cX0_rests 31 = .ok (.aload_n 0, 1) := by decide +kernel
theorem dX0_rests_32 : decode cX0_rests 32 = .ok (.iload_n 1, 1) := by decide +kernel
theorem dX0_rests_33 : decode cX0_rests 33 = .ok (.iload_n 2, 1) := by decide +kernel
theorem dX0_rests_34 : decode cX0_rests 34 = .ok (.invokevirtual 55, 3) := by decide +kernel
theorem dX0_rests_37 : decode cX0_rests 37 = .ok (.aload_n 0, 1) := by decide +kernel
theorem dX0_rests_38 : decode cX0_rests 38 = .ok (.getfield 15, 3) := by decide +kernel
theorem dX0_rests_41 : decode cX0_rests 41 = .ok (.iload_n 2, 1) := by decide +kernel
theorem dX0_rests_42 : decode cX0_rests 42 = .ok (.iaload, 1) := by decide +kernel
theorem dX0_rests_43 : decode cX0_rests 43 = .ok (.imul, 1) := by decide +kernel
theorem dX0_rests_44 : decode cX0_rests 44 = .ok (.isub, 1) := by decide +kernel
theorem dX0_rests_45 : decode cX0_rests 45 = .ok (.istore 4, 2) := by decide +kernel
theorem dX0_rests_47 : decode cX0_rests 47 = .ok (.iconst 0, 1) := by decide +kernel
theorem dX0_rests_48 : decode cX0_rests 48 = .ok (.istore 5, 2) := by decide +kernel
theorem dX0_rests_50 : decode cX0_rests 50 = .ok (.iload 5, 2) := by decide +kernel
theorem dX0_rests_52 : decode cX0_rests 52 = .ok (.bipush 7, 2) := by decide +kernel
theorem dX0_rests_54 : decode cX0_rests 54 = .ok (.if_icmp .ge 36, 3) := by decide +kernel
theorem dX0_rests_57 : decode cX0_rests 57 = .ok (.aload_n 0, 1) := by decide +kernel
theorem dX0_rests_58 : decode cX0_rests 58 = .ok (.getfield 18, 3) := by decide +kernel
theorem dX0_rests_61 : decode cX0_rests 61 = .ok (.iload 4, 2) := by decide +kernel
theorem dX0_rests_63 : decode cX0_rests 63 = .ok (.iload 5, 2) := by decide +kernel
theorem dX0_rests_65 : decode cX0_rests 65 = .ok (.aload_n 0, 1) := by decide +kernel
theorem dX0_rests_66 : decode cX0_rests 66 = .ok (.getfield 15, 3) := by decide +kernel
theorem dX0_rests_69 : decode cX0_rests 69 = .ok (.iload_n 2, 1) := by decide +kernel
theorem dX0_rests_70 : decode cX0_rests 70 = .ok (.iaload, 1) := by decide +kernel
theorem dX0_rests_71 : decode cX0_rests 71 = .ok (.imul, 1) := by decide +kernel
theorem dX0_rests_72 : decode cX0_rests 72 = .ok (.iadd, 1) := by decide +kernel
theorem dX0_rests_73 : decode cX0_rests 73 = .ok (.iconst 3, 1) := by decide +kernel
theorem dX0_rests_74 : decode cX0_rests 74 = .ok (.imul, 1) := by decide +kernel
theorem dX0_rests_75 : decode cX0_rests 75 = .ok (.iload_n 2, 1) := by decide +kernel
theorem dX0_rests_76 : decode cX0_rests 76 = .ok (.iadd, 1) := by decide +kernel
theorem dX0_rests_77 : decode cX0_rests 77 = .ok (.iaload, 1) := by decide +kernel
theorem dX0_rests_78 : decode cX0_rests 78 = .ok (.iload_n 3, 1) := by decide +kernel
theorem dX0_rests_79 : decode cX0_rests 79 = .ok (.if_icmp .ge 5, 3) := by decide +kernel
theorem dX0_rests_82 : decode cX0_rests 82 = .ok (.iconst 0, 1) := by decide +kernel
theorem dX0_rests_83 : decode cX0_rests 83 = .ok (.ireturn, 1) := by decide +kernel
theorem dX0_rests_84 : decode cX0_rests 84 = .ok (.iinc 5 1, 3) := by decide +kernel
theorem dX0_rests_87 : decode cX0_rests 87 = .ok (.goto (-37), 3) := by decide +kernel
theorem dX0_rests_90 : decode cX0_rests 90 = .ok (.iinc 2 1, 3) := by decide +kernel
theorem dX0_rests_93 : decode cX0_rests 93 = .ok (.goto (-91), 3) := by decide +kernel
theorem dX0_rests_96 : decode cX0_rests 96 = .ok (.iconst 1, 1) := by decide +kernel
theorem dX0_rests_97 : decode cX0_rests 97 = .ok (.ireturn, 1) := by decide +kernel
theorem dX0_countRests_0 : decode cX0_countRests 0 = .ok (.iconst 0, 1) := by decide +kernel
theorem dX0_countRests_1 : decode cX0_countRests 1 = .ok (.istore_n 1, 1) := by decide +kernel
theorem dX0_countRests_2 : decode cX0_countRests 2 = .ok (.iconst 0, 1) := by decide +kernel
theorem dX0_countRests_3 : decode cX0_countRests 3 = .ok (.istore_n 2, 1) := by decide +kernel
theorem dX0_countRests_4 : decode cX0_countRests 4 = .ok (.iload_n 2, 1) := by decide +kernel
theorem dX0_countRests_5 : decode cX0_countRests 5 = .ok (.aload_n 0, 1) := by decide +kernel
theorem dX0_countRests_6 : decode cX0_countRests 6 = .ok (.getfield 25, 3) := by decide +kernel
theorem dX0_countRests_9 : decode cX0_countRests 9 = .ok (.if_icmp .ge 20, 3) := by decide +kernel
theorem dX0_countRests_12 : decode cX0_countRests 12 = .ok (.aload_n 0, 1) := by decide +kernel
theorem dX0_countRests_13 : decode cX0_countRests 13 = .ok (.iload_n 2, 1) := by decide +kernel
theorem dX0_countRests_14 : decode cX0_countRests 14 = .ok (.invokevirtual 63, 3) := by decide +kernel
theorem dX0_countRests_17 : decode cX0_countRests 17 = .ok (.ifCond .eq 6, 3) := by decide +kernel
theorem dX0_countRests_20 : decode cX0_countRests 20 = .ok (.iinc 1 1, 3) := by decide +kernel
theorem dX0_countRests_23 : decode cX0_countRests 23 = .ok (.iinc 2 1, 3) := by decide +kernel
theorem dX0_countRests_26 : decode cX0_countRests 26 = .ok (.goto (-22), 3) := by decide +kernel
theorem dX0_countRests_29 : decode cX0_countRests 29 = .ok (.iload_n 1, 1) := by decide +kernel
theorem dX0_countRests_30 : decode cX0_countRests 30 = .ok (.ireturn, 1) := by decide +kernel
theorem dX0_firstRest_0 : decode cX0_firstRest 0 = .ok (.iconst 0, 1) := by decide +kernel
theorem dX0_firstRest_1 : decode cX0_firstRest 1 = .ok (.istore_n 1, 1) := by decide +kernel
theorem dX0_firstRest_2 : decode cX0_firstRest 2 = .ok (.iload_n 1, 1) := by decide +kernel
theorem dX0_firstRest_3 : decode cX0_firstRest 3 = .ok (.aload_n 0, 1) := by decide +kernel
theorem dX0_firstRest_4 : decode cX0_firstRest 4 = .ok (.getfield 25, 3) := by decide +kernel
theorem dX0_firstRest_7 : decode cX0_firstRest 7 = .ok (.if_icmp .ge 23, 3) := by decide +kernel
theorem dX0_firstRest_10 : decode cX0_firstRest 10 = .ok (.aload_n 0, 1) := by decide +kernel
theorem dX0_firstRest_11 : decode cX0_firstRest 11 = .ok (.iload_n 1, 1) := by decide +kernel
theorem dX0_firstRest_12 : decode cX0_firstRest 12 = .ok (.invokevirtual 63, 3) := by decide +kernel
theorem dX0_firstRest_15 : decode cX0_firstRest 15 = .ok (.ifCond .eq 9, 3) := by decide +kernel
theorem dX0_firstRest_18 : decode cX0_firstRest 18 = .ok (.aload_n 0, 1) := by decide +kernel
theorem dX0_firstRest_19 : decode cX0_firstRest 19 = .ok (.iload_n 1, 1) := by decide +kernel
theorem dX0_firstRest_20 : decode cX0_firstRest 20 = .ok (.invokevirtual 67, 3) := by decide +kernel
theorem dX0_firstRest_23 : decode cX0_firstRest 23 = .ok (.ireturn, 1) := by decide +kernel
theorem dX0_firstRest_24 : decode cX0_firstRest 24 = .ok (.iinc 1 1, 3) := by decide +kernel
theorem dX0_firstRest_27 : decode cX0_firstRest 27 = .ok (.goto (-25), 3) := by decide +kernel
theorem dX0_firstRest_30 : decode cX0_firstRest 30 = .ok (.iconst (-1), 1) := by decide +kernel
theorem dX0_firstRest_31 : decode cX0_firstRest 31 = .ok (.ireturn, 1) := by decide +kernel
theorem dX0_writeFigures_0 : decode cX0_writeFigures 0 = .ok (.iconst 0, 1) := by decide +kernel
theorem dX0_writeFigures_1 : decode cX0_writeFigures 1 = .ok (.istore_n 2, 1) := by decide +kernel
theorem dX0_writeFigures_2 : decode cX0_writeFigures 2 = .ok (.aload_n 0, 1) := by decide +kernel
theorem dX0_writeFigures_3 : decode cX0_writeFigures 3 = .ok (.getfield 45, 3) := by decide +kernel
theorem dX0_writeFigures_6 : decode cX0_writeFigures 6 = .ok (.iconst 1, 1) := by decide +kernel
theorem dX0_writeFigures_7 : decode cX0_writeFigures 7 = .ok (.isub, 1) := by decide +kernel
theorem dX0_writeFigures_8 : decode cX0_writeFigures 8 = .ok (.istore_n 3, 1) := by decide +kernel
theorem dX0_writeFigures_9 : decode cX0_writeFigures 9 = .ok (.iload_n 3, 1) := by decide +kernel
theorem dX0_writeFigures_10 : decode cX0_writeFigures 10 = .ok (.ifCond .lt 27, 3) := by decide +kernel
theorem dX0_writeFigures_13 : decode cX0_writeFigures 13 = .ok (.iload_n 2, 1) := by decide +kernel
theorem dX0_writeFigures_14 : decode cX0_writeFigures 14 = .ok (.bipush 10, 2) := by decide +kernel
theorem dX0_writeFigures_16 : decode cX0_writeFigures 16 = .ok (.imul, 1) := by decide +kernel
theorem dX0_writeFigures_17 : decode cX0_writeFigures 17 = .ok (.getstatic 52, 3) := by decide +kernel
theorem dX0_writeFigures_20 : decode cX0_writeFigures 20 = .ok (.aload_n 0, 1) := by decide +kernel
theorem dX0_writeFigures_21 : decode cX0_writeFigures 21 = .ok (.iload_n 1, 1) := by decide +kernel
theorem dX0_writeFigures_22 : decode cX0_writeFigures 22 = .ok (.iload_n 3, 1) := by decide +kernel
theorem dX0_writeFigures_23 : decode cX0_writeFigures 23 = .ok (.invokevirtual 55, 3) := by decide +kernel
theorem dX0_writeFigures_26 : decode cX0_writeFigures 26 = .ok (.iaload, 1) := by decide +kernel
theorem dX0_writeFigures_27 : decode cX0_writeFigures 27 = .ok (.iadd, 1) := by decide +kernel
theorem dX0_writeFigures_28 : decode cX0_writeFigures 28 = .ok (.iconst 1, 1) := by decide +kernel
theorem dX0_writeFigures_29 : decode cX0_writeFigures 29 = .ok (.iadd, 1) := by decide +kernel
theorem dX0_writeFigures_30 : decode cX0_writeFigures 30 = .ok (.istore_n 2, 1) := by decide +kernel
theorem dX0_writeFigures_31 : decode cX0_writeFigures 31 = .ok (.iinc 3 (-1), 3) := by decide +kernel
theorem dX0_writeFigures_34 : decode cX0_writeFigures 34 = .ok (.goto (-25), 3) := by decide +kernel
theorem dX0_writeFigures_37 : decode cX0_writeFigures 37 = .ok (.iload_n 2, 1) := by decide +kernel
theorem dX0_writeFigures_38 : decode cX0_writeFigures 38 = .ok (.ireturn, 1) := by decide +kernel
theorem dX0_bestOfOne_0 : decode cX0_bestOfOne 0 = .ok (.iconst 0, 1) := by decide +kernel
theorem dX0_bestOfOne_1 : decode cX0_bestOfOne 1 = .ok (.istore_n 1, 1) := by decide +kernel
theorem dX0_bestOfOne_2 : decode cX0_bestOfOne 2 = .ok (.iconst 1, 1) := by decide +kernel
theorem dX0_bestOfOne_3 : decode cX0_bestOfOne 3 = .ok (.istore_n 2, 1) := by decide +kernel
theorem dX0_bestOfOne_4 : decode cX0_bestOfOne 4 = .ok (.iload_n 2, 1) := by decide +kernel
theorem dX0_bestOfOne_5 : decode cX0_bestOfOne 5 = .ok (.bipush 7, 2) := by decide +kernel
theorem dX0_bestOfOne_7 : decode cX0_bestOfOne 7 = .ok (.if_icmp .ge 30, 3) := by decide +kernel
theorem dX0_bestOfOne_10 : decode cX0_bestOfOne 10 = .ok (.aload_n 0, 1) := by decide +kernel
theorem dX0_bestOfOne_11 : decode cX0_bestOfOne 11 = .ok (.getfield 18, 3) := by decide +kernel
theorem dX0_bestOfOne_14 : decode cX0_bestOfOne 14 = .ok (.iload_n 2, 1) := by decide +kernel
theorem dX0_bestOfOne_15 : decode cX0_bestOfOne 15 = .ok (.iconst 3, 1) := by decide +kernel
theorem dX0_bestOfOne_16 : decode cX0_bestOfOne 16 = .ok (.imul, 1) := by decide +kernel
theorem dX0_bestOfOne_17 : decode cX0_bestOfOne 17 = .ok (.iaload, 1) := by decide +kernel
theorem dX0_bestOfOne_18 : decode cX0_bestOfOne 18 = .ok (.aload_n 0, 1) := by decide +kernel
theorem dX0_bestOfOne_19 : decode cX0_bestOfOne 19 = .ok (.getfield 18, 3) := by decide +kernel
theorem dX0_bestOfOne_22 : decode cX0_bestOfOne 22 = .ok (.iload_n 1, 1) := by decide +kernel
theorem dX0_bestOfOne_23 : decode cX0_bestOfOne 23 = .ok (.iconst 3, 1) := by decide +kernel
theorem dX0_bestOfOne_24 : decode cX0_bestOfOne 24 = .ok (.imul, 1) := by decide +kernel
theorem dX0_bestOfOne_25 : decode cX0_bestOfOne 25 = .ok (.iaload, 1) := by decide +kernel
theorem dX0_bestOfOne_26 : decode cX0_bestOfOne 26 = .ok (.if_icmp .ge 5, 3) := by decide +kernel
theorem dX0_bestOfOne_29 : decode cX0_bestOfOne 29 = .ok (.iload_n 2, 1) := by decide +kernel
theorem dX0_bestOfOne_30 : decode cX0_bestOfOne 30 = .ok (.istore_n 1, 1) := by decide +kernel
theorem dX0_bestOfOne_31 : decode cX0_bestOfOne 31 = .ok (.iinc 2 1, 3) := by decide +kernel
theorem dX0_bestOfOne_34 : decode cX0_bestOfOne 34 = .ok (.goto (-30), 3) := by decide +kernel
theorem dX0_bestOfOne_37 : decode cX0_bestOfOne 37 = .ok (.iload_n 1, 1) := by decide +kernel
theorem dX0_bestOfOne_38 : decode cX0_bestOfOne 38 = .ok (.ireturn, 1) := by decide +kernel
theorem dX0_dropOf_0 : decode cX0_dropOf 0 = .ok (.iload_n 1, 1) := by decide +kernel
theorem dX0_dropOf_1 : decode cX0_dropOf 1 = .ok (.ifCond .lt 17, 3) := by decide +kernel
theorem dX0_dropOf_4 : decode cX0_dropOf 4 = .ok (.iload_n 1, 1) := by decide +kernel
theorem dX0_dropOf_5 : decode cX0_dropOf 5 = .ok (.bipush 7, 2) := by decide +kernel
theorem dX0_dropOf_7 : decode cX0_dropOf 7 = .ok (.if_icmp .ge 11, 3) := by decide +kernel
theorem dX0_dropOf_10 : decode cX0_dropOf 10 = .ok (.getstatic 52, 3) := by decide +kernel
theorem dX0_dropOf_13 : decode cX0_dropOf 13 = .ok (.iload_n 1, 1) := by decide +kernel
theorem dX0_dropOf_14 : decode cX0_dropOf 14 = .ok (.iaload, 1) := by decide +kernel
theorem dX0_dropOf_15 : decode cX0_dropOf 15 = .ok (.goto 4, 3) := by decide +kernel
theorem dX0_dropOf_18 : decode cX0_dropOf 18 = .ok (.iconst (-1), 1) := by decide +kernel
theorem dX0_dropOf_19 : decode cX0_dropOf 19 = .ok (.ireturn, 1) := by decide +kernel
theorem dX0_weddingOf_0 : decode cX0_weddingOf 0 = .ok (.iload_n 1, 1) := by decide +kernel
theorem dX0_weddingOf_1 : decode cX0_weddingOf 1 = .ok (.ifCond .lt 21, 3) := by decide +kernel
theorem dX0_weddingOf_4 : decode cX0_weddingOf 4 = .ok (.iload_n 1, 1) := by decide +kernel
theorem dX0_weddingOf_5 : decode cX0_weddingOf 5 = .ok (.sipush 343, 3) := by decide +kernel
theorem dX0_weddingOf_8 : decode cX0_weddingOf 8 = .ok (.if_icmp .ge 14, 3) := by decide +kernel
theorem dX0_weddingOf_11 : decode cX0_weddingOf 11 = .ok (.aload_n 0, 1) := by decide +kernel
theorem dX0_weddingOf_12 : decode cX0_weddingOf 12 = .ok (.getfield 18, 3) := by decide +kernel
theorem dX0_weddingOf_15 : decode cX0_weddingOf 15 = .ok (.iload_n 1, 1) := by decide +kernel
theorem dX0_weddingOf_16 : decode cX0_weddingOf 16 = .ok (.iconst 3, 1) := by decide +kernel
theorem dX0_weddingOf_17 : decode cX0_weddingOf 17 = .ok (.imul, 1) := by decide +kernel
theorem dX0_weddingOf_18 : decode cX0_weddingOf 18 = .ok (.iaload, 1) := by decide +kernel
theorem dX0_weddingOf_19 : decode cX0_weddingOf 19 = .ok (.goto 6, 3) := by decide +kernel
theorem dX0_weddingOf_22 : decode cX0_weddingOf 22 = .ok (.sipush 1000, 3) := by decide +kernel
theorem dX0_weddingOf_25 : decode cX0_weddingOf 25 = .ok (.istore_n 2, 1) := by decide +kernel
theorem dX0_weddingOf_26 : decode cX0_weddingOf 26 = .ok (.iload_n 2, 1) := by decide +kernel
theorem dX0_weddingOf_27 : decode cX0_weddingOf 27 = .ok (.sipush 1000, 3) := by decide +kernel
theorem dX0_weddingOf_30 : decode cX0_weddingOf 30 = .ok (.if_icmp .ne 7, 3) := by decide +kernel
theorem dX0_weddingOf_33 : decode cX0_weddingOf 33 = .ok (.iconst (-1), 1) := by decide +kernel
theorem dX0_weddingOf_34 : decode cX0_weddingOf 34 = .ok (.goto 4, 3) := by decide +kernel
theorem dX0_weddingOf_37 : decode cX0_weddingOf 37 = .ok (.iload_n 2, 1) := by decide +kernel
theorem dX0_weddingOf_38 : decode cX0_weddingOf 38 = .ok (.ireturn, 1) := by decide +kernel
theorem dX1_init_0 : decode cX1_init 0 = .ok (.aload_n 0, 1) := by decide +kernel
theorem dX1_init_1 : decode cX1_init 1 = .ok (.invokespecial 3, 3) := by decide +kernel
theorem dX1_init_4 : decode cX1_init 4 = .ok (.aload_n 0, 1) := by decide +kernel
theorem dX1_init_5 : decode cX1_init 5 = .ok (.aload_n 1, 1) := by decide +kernel
theorem dX1_init_6 : decode cX1_init 6 = .ok (.putfield 9, 3) := by decide +kernel
theorem dX1_init_9 : decode cX1_init 9 = .ok (.aload_n 0, 1) := by decide +kernel
theorem dX1_init_10 : decode cX1_init 10 = .ok (.aload_n 2, 1) := by decide +kernel
theorem dX1_init_11 : decode cX1_init 11 = .ok (.putfield 15, 3) := by decide +kernel
theorem dX1_init_14 : decode cX1_init 14 = .ok (.return_, 1) := by decide +kernel
theorem dX1_read_0 : decode cX1_read 0 = .ok (.aload_n 0, 1) := by decide +kernel
theorem dX1_read_1 : decode cX1_read 1 = .ok (.iload_n 1, 1) := by decide +kernel
theorem dX1_read_2 : decode cX1_read 2 = .ok (.aload_n 0, 1) := by decide +kernel
theorem dX1_read_3 : decode cX1_read 3 = .ok (.getfield 9, 3) := by decide +kernel
theorem dX1_read_6 : decode cX1_read 6 = .ok (.arraylength, 1) := by decide +kernel
theorem dX1_read_7 : decode cX1_read 7 = .ok (.invokestatic 19, 3) := by decide +kernel
theorem dX1_read_10 : decode cX1_read 10 = .ok (.putfield 25, 3) := by decide +kernel
theorem dX1_read_13 : decode cX1_read 13 = .ok (.aload_n 0, 1) := by decide +kernel
theorem dX1_read_14 : decode cX1_read 14 = .ok (.aload_n 2, 1) := by decide +kernel
theorem dX1_read_15 : decode cX1_read 15 = .ok (.putfield 15, 3) := by decide +kernel
theorem dX1_read_18 : decode cX1_read 18 = .ok (.aload_n 0, 1) := by decide +kernel
theorem dX1_read_19 : decode cX1_read 19 = .ok (.getfield 15, 3) := by decide +kernel
theorem dX1_read_22 : decode cX1_read 22 = .ok (.invokevirtual 29, 3) := by decide +kernel
theorem dX1_read_25 : decode cX1_read 25 = .ok (.aload_n 0, 1) := by decide +kernel
theorem dX1_read_26 : decode cX1_read 26 = .ok (.iconst 0, 1) := by decide +kernel
theorem dX1_read_27 : decode cX1_read 27 = .ok (.putfield 34, 3) := by decide +kernel
theorem dX1_read_30 : decode cX1_read 30 = .ok (.aload_n 0, 1) := by decide +kernel
theorem dX1_read_31 : decode cX1_read 31 = .ok (.iconst (-1), 1) := by decide +kernel
theorem dX1_read_32 : decode cX1_read 32 = .ok (.putfield 37, 3) := by decide +kernel
theorem dX1_read_35 : decode cX1_read 35 = .ok (.aload_n 0, 1) := by decide +kernel
theorem dX1_read_36 : decode cX1_read 36 = .ok (.iconst 0, 1) := by decide +kernel
theorem dX1_read_37 : decode cX1_read 37 = .ok (.putfield 40, 3) := by decide +kernel
theorem dX1_read_40 : decode cX1_read 40 = .ok (.aload_n 0, 1) := by decide +kernel
theorem dX1_read_41 : decode cX1_read 41 = .ok (.iconst 0, 1) := by decide +kernel
theorem dX1_read_42 : decode cX1_read 42 = .ok (.putfield 43, 3) := by decide +kernel
theorem dX1_read_45 : decode cX1_read 45 = .ok (.aload_n 0, 1) := by decide +kernel
theorem dX1_read_46 : decode cX1_read 46 = .ok (.invokevirtual 46, 3) := by decide +kernel
theorem dX1_read_49 : decode cX1_read 49 = .ok (.iconst 0, 1) := by decide +kernel
theorem dX1_read_50 : decode cX1_read 50 = .ok (.istore_n 3, 1) := by decide +kernel
theorem dX1_read_51 : decode cX1_read 51 = .ok (.iload_n 3, 1) := by decide +kernel
theorem dX1_read_52 : decode cX1_read 52 = .ok (.aload_n 0, 1) := by decide +kernel
theorem dX1_read_53 : decode cX1_read 53 = .ok (.getfield 25, 3) := by decide +kernel
theorem dX1_read_56 : decode cX1_read 56 = .ok (.if_icmp .gt 29, 3) := by decide +kernel
theorem dX1_read_59 : decode cX1_read 59 = .ok (.aload_n 0, 1) := by decide +kernel
theorem dX1_read_60 : decode cX1_read 60 = .ok (.getfield 34, 3) := by decide +kernel
theorem dX1_read_63 : decode cX1_read 63 = .ok (.ifCond .ne 22, 3) := by decide +kernel
theorem dX1_read_66 : decode cX1_read 66 = .ok (.aload_n 0, 1) := by decide +kernel
theorem dX1_read_67 : decode cX1_read 67 = .ok (.getfield 49, 3) := by decide +kernel
theorem dX1_read_70 : decode cX1_read 70 = .ok (.iconst 4, 1) := by decide +kernel
theorem dX1_read_71 : decode cX1_read 71 = .ok (.if_icmp .eq 14, 3) := by decide +kernel
theorem dX1_read_74 : decode cX1_read 74 = .ok (.aload_n 0, 1) := by decide +kernel
theorem dX1_read_75 : decode cX1_read 75 = .ok (.iload_n 3, 1) := by decide +kernel
theorem dX1_read_76 : decode cX1_read 76 = .ok (.invokevirtual 52, 3) := by decide +kernel
theorem dX1_read_79 : decode cX1_read 79 = .ok (.iinc 3 1, 3) := by decide +kernel
theorem dX1_read_82 : decode cX1_read 82 = .ok (.goto (-31), 3) := by decide +kernel
theorem dX1_read_85 : decode cX1_read 85 = .ok (.return_, 1) := by decide +kernel
theorem dX1_refuse_0 : decode cX1_refuse 0 = .ok (.aload_n 0, 1) := by decide +kernel
theorem dX1_refuse_1 : decode cX1_refuse 1 = .ok (.getfield 34, 3) := by decide +kernel
theorem dX1_refuse_4 : decode cX1_refuse 4 = .ok (.ifCond .ne 13, 3) := by decide +kernel
theorem dX1_refuse_7 : decode cX1_refuse 7 = .ok (.aload_n 0, 1) := by decide +kernel
theorem dX1_refuse_8 : decode cX1_refuse 8 = .ok (.iload_n 1, 1) := by decide +kernel
theorem dX1_refuse_9 : decode cX1_refuse 9 = .ok (.putfield 34, 3) := by decide +kernel
theorem dX1_refuse_12 : decode cX1_refuse 12 = .ok (.aload_n 0, 1) := by decide +kernel
theorem dX1_refuse_13 : decode cX1_refuse 13 = .ok (.iload_n 2, 1) := by decide +kernel
theorem dX1_refuse_14 : decode cX1_refuse 14 = .ok (.putfield 37, 3) := by decide +kernel
theorem dX1_refuse_17 : decode cX1_refuse 17 = .ok (.return_, 1) := by decide +kernel
theorem dX1_advance_0 : decode cX1_advance 0 = .ok (.aload_n 0, 1) := by decide +kernel
theorem dX1_advance_1 : decode cX1_advance 1 = .ok (.aload_n 0, 1) := by decide +kernel
theorem dX1_advance_2 : decode cX1_advance 2 = .ok (.getfield 56, 3) := by decide +kernel
theorem dX1_advance_5 : decode cX1_advance 5 = .ok (.putfield 59, 3) := by decide +kernel
theorem dX1_advance_8 : decode cX1_advance 8 = .ok (.aload_n 0, 1) := by decide +kernel
theorem dX1_advance_9 : decode cX1_advance 9 = .ok (.aload_n 0, 1) := by decide +kernel
theorem dX1_advance_10 : decode cX1_advance 10 = .ok (.getfield 40, 3) := by decide +kernel
theorem dX1_advance_13 : decode cX1_advance 13 = .ok (.putfield 56, 3) := by decide +kernel
theorem dX1_advance_16 : decode cX1_advance 16 = .ok (.aload_n 0, 1) := by decide +kernel
theorem dX1_advance_17 : decode cX1_advance 17 = .ok (.getfield 56, 3) := by decide +kernel
theorem dX1_advance_20 : decode cX1_advance 20 = .ok (.aload_n 0, 1) := by decide +kernel
theorem dX1_advance_21 : decode cX1_advance 21 = .ok (.getfield 25, 3) := by decide +kernel
theorem dX1_advance_24 : decode cX1_advance 24 = .ok (.if_icmp .ge 44, 3) := by decide +kernel
theorem dX1_advance_27 : decode cX1_advance 27 = .ok (.aload_n 0, 1) := by decide +kernel
theorem dX1_advance_28 : decode cX1_advance 28 = .ok (.getfield 9, 3) := by decide +kernel
theorem dX1_advance_31 : decode cX1_advance 31 = .ok (.aload_n 0, 1) := by decide +kernel
theorem dX1_advance_32 : decode cX1_advance 32 = .ok (.getfield 56, 3) := by decide +kernel
theorem dX1_advance_35 : decode cX1_advance 35 = .ok (.iaload, 1) := by decide +kernel
theorem dX1_advance_36 : decode cX1_advance 36 = .ok (.bipush 32, 2) := by decide +kernel
theorem dX1_advance_38 : decode cX1_advance 38 = .ok (.if_icmp .eq 17, 3) := by decide +kernel
theorem dX1_advance_41 : decode cX1_advance 41 = .ok (.aload_n 0, 1) := by decide +kernel
theorem dX1_advance_42 : decode cX1_advance 42 = .ok (.getfield 9, 3) := by decide +kernel
theorem dX1_advance_45 : decode cX1_advance 45 = .ok (.aload_n 0, 1) := by decide +kernel
theorem dX1_advance_46 : decode cX1_advance 46 = .ok (.getfield 56, 3) := by decide +kernel
theorem dX1_advance_49 : decode cX1_advance 49 = .ok (.iaload, 1) := by decide +kernel
theorem dX1_advance_50 : decode cX1_advance 50 = .ok (.bipush 10, 2) := by decide +kernel
theorem dX1_advance_52 : decode cX1_advance 52 = .ok (.if_icmp .ne 16, 3) := by decide +kernel
theorem dX1_advance_55 : decode cX1_advance 55 = .ok (.aload_n 0, 1) := by decide +kernel
theorem dX1_advance_56 : decode cX1_advance 56 = .ok (.dup, 1) := by decide +kernel
theorem dX1_advance_57 : decode cX1_advance 57 = .ok (.getfield 56, 3) := by decide +kernel
theorem dX1_advance_60 : decode cX1_advance 60 = .ok (.iconst 1, 1) := by decide +kernel
theorem dX1_advance_61 : decode cX1_advance 61 = .ok (.iadd, 1) := by decide +kernel
theorem dX1_advance_62 : decode cX1_advance 62 = .ok (.putfield 56, 3) := by decide +kernel
theorem dX1_advance_65 : decode cX1_advance 65 = .ok (.goto (-49), 3) := by decide +kernel
theorem dX1_advance_68 : decode cX1_advance 68 = .ok (.aload_n 0, 1) := by decide +kernel
theorem dX1_advance_69 : decode cX1_advance 69 = .ok (.aload_n 0, 1) := by decide +kernel
theorem dX1_advance_70 : decode cX1_advance 70 = .ok (.getfield 56, 3) := by decide +kernel
theorem dX1_advance_73 : decode cX1_advance 73 = .ok (.putfield 40, 3) := by decide +kernel
theorem dX1_advance_76 : decode cX1_advance 76 = .ok (.aload_n 0, 1) := by decide +kernel
theorem dX1_advance_77 : decode cX1_advance 77 = .ok (.aload_n 0, 1) := by decide +kernel
theorem dX1_advance_78 : decode cX1_advance 78 = .ok (.aload_n 0, 1) := by decide +kernel
theorem dX1_advance_79 : decode cX1_advance 79 = .ok (.getfield 56, 3) := by decide +kernel
theorem dX1_advance_82 : decode cX1_advance 82 = .ok (.invokevirtual 62, 3) := by decide +kernel
theorem dX1_advance_85 : decode cX1_advance 85 = .ok (.putfield 49, 3) := by decide +kernel
theorem dX1_advance_88 : decode cX1_advance 88 = .ok (.aload_n 0, 1) := by decide +kernel
theorem dX1_advance_89 : decode cX1_advance 89 = .ok (.getfield 49, 3) := by decide +kernel
theorem dX1_advance_92 : decode cX1_advance 92 = .ok (.ifCond .eq 11, 3) := by decide +kernel
theorem dX1_advance_95 : decode cX1_advance 95 = .ok (.aload_n 0, 1) := by decide +kernel
theorem dX1_advance_96 : decode cX1_advance 96 = .ok (.getfield 49, 3) := by decide +kernel
theorem dX1_advance_99 : decode cX1_advance 99 = .ok (.iconst 1, 1) := by decide +kernel
theorem dX1_advance_100 : decode cX1_advance 100 = .ok (.if_icmp .ne 42, 3) := by decide +kernel
theorem dX1_advance_103 : decode cX1_advance 103 = .ok (.aload_n 0, 1) := by decide +kernel
theorem dX1_advance_104 : decode cX1_advance 104 = .ok (.getfield 40, 3) := by decide +kernel
theorem dX1_advance_107 : decode cX1_advance 107 = .ok (.aload_n 0, 1) := by decide +kernel
theorem dX1_advance_108 : decode cX1_advance 108 = .ok (.getfield 25, 3) := by decide +kernel
theorem dX1_advance_111 : decode cX1_advance 111 = .ok (.if_icmp .ge 49, 3) := by decide +kernel
theorem dX1_advance_114 : decode cX1_advance 114 = .ok (.aload_n 0, 1) := by decide +kernel
theorem dX1_advance_115 : decode cX1_advance 115 = .ok (.aload_n 0, 1) := by decide +kernel
theorem dX1_advance_116 : decode cX1_advance 116 = .ok (.getfield 40, 3) := by decide +kernel
theorem dX1_advance_119 : decode cX1_advance 119 = .ok (.invokevirtual 62, 3) := by decide +kernel
theorem dX1_advance_122 : decode cX1_advance 122 = .ok (.aload_n 0, 1) := by decide +kernel
theorem dX1_advance_123 : decode cX1_advance 123 = .ok (.getfield 49, 3) := by decide +kernel
theorem dX1_advance_126 : decode cX1_advance 126 = .ok (.if_icmp .ne 34, 3) := by decide +kernel
theorem dX1_advance_129 : decode cX1_advance 129 = .ok (.aload_n 0, 1) := by decide +kernel
theorem dX1_advance_130 : decode cX1_advance 130 = .ok (.dup, 1) := by decide +kernel
theorem dX1_advance_131 : decode cX1_advance 131 = .ok (.getfield 40, 3) := by decide +kernel
theorem dX1_advance_134 : decode cX1_advance 134 = .ok (.iconst 1, 1) := by decide +kernel
theorem dX1_advance_135 : decode cX1_advance 135 = .ok (.iadd, 1) := by decide +kernel
theorem dX1_advance_136 : decode cX1_advance 136 = .ok (.putfield 40, 3) := by decide +kernel
theorem dX1_advance_139 : decode cX1_advance 139 = .ok (.goto (-36), 3) := by decide +kernel
theorem dX1_advance_142 : decode cX1_advance 142 = .ok (.aload_n 0, 1) := by decide +kernel
theorem dX1_advance_143 : decode cX1_advance 143 = .ok (.getfield 49, 3) := by decide +kernel
theorem dX1_advance_146 : decode cX1_advance 146 = .ok (.iconst 4, 1) := by decide +kernel
theorem dX1_advance_147 : decode cX1_advance 147 = .ok (.if_icmp .eq 13, 3) := by decide +kernel
theorem dX1_advance_150 : decode cX1_advance 150 = .ok (.aload_n 0, 1) := by decide +kernel
theorem dX1_advance_151 : decode cX1_advance 151 = .ok (.dup, 1) := by decide +kernel
theorem dX1_advance_152 : decode cX1_advance 152 = .ok (.getfield 40, 3) := by decide +kernel
theorem dX1_advance_155 : decode cX1_advance 155 = .ok (.iconst 1, 1) := by decide +kernel
theorem dX1_advance_156 : decode cX1_advance 156 = .ok (.iadd, 1) := by decide +kernel
theorem dX1_advance_157 : decode cX1_advance 157 = .ok (.putfield 40, 3) := by decide +kernel
theorem dX1_advance_160 : decode cX1_advance 160 = .ok (.return_, 1) := by decide +kernel
theorem dX1_classify_0 : decode cX1_classify 0 = .ok (.iload_n 1, 1) := by decide +kernel
theorem dX1_classify_1 : decode cX1_classify 1 = .ok (.aload_n 0, 1) := by decide +kernel
theorem dX1_classify_2 : decode cX1_classify 2 = .ok (.getfield 25, 3) := by decide +kernel
theorem dX1_classify_5 : decode cX1_classify 5 = .ok (.if_icmp .lt 5, 3) := by decide +kernel
theorem dX1_classify_8 : decode cX1_classify 8 = .ok (.iconst 4, 1) := by decide +kernel
theorem dX1_classify_9 : decode cX1_classify 9 = .ok (.ireturn, 1) := by decide +kernel
theorem dX1_classify_10 : decode cX1_classify 10 = .ok (.aload_n 0, 1) := by decide +kernel
theorem dX1_classify_11 : decode cX1_classify 11 = .ok (.getfield 9, 3) := by decide +kernel
theorem dX1_classify_14 : decode cX1_classify 14 = .ok (.iload_n 1, 1) := by decide +kernel
theorem dX1_classify_15 : decode cX1_classify 15 = .ok (.iaload, 1) := by decide +kernel
theorem dX1_classify_16 : decode cX1_classify 16 = .ok (.istore_n 2, 1) := by decide +kernel
theorem dX1_classify_17 : decode cX1_classify 17 = .ok (.iload_n 2, 1) := by decide +kernel
theorem dX1_classify_18 : decode cX1_classify 18 = .ok (.bipush 97, 2) := by decide +kernel
theorem dX1_classify_20 : decode cX1_classify 20 = .ok (.if_icmp .lt 11, 3) := by decide +kernel
theorem dX1_classify_23 : decode cX1_classify 23 = .ok (.iload_n 2, 1) := by decide +kernel
theorem dX1_classify_24 : decode cX1_classify 24 = .ok (.bipush 122, 2) := by decide +kernel
theorem dX1_classify_26 : decode cX1_classify 26 = .ok (.if_icmp .gt 5, 3) := by decide +kernel
theorem dX1_classify_29 : decode cX1_classify 29 = .ok (.iconst 0, 1) := by decide +kernel
theorem dX1_classify_30 : decode cX1_classify 30 = .ok (.ireturn, 1) := by decide +kernel
theorem dX1_classify_31 : decode cX1_classify 31 = .ok (.iload_n 2, 1) := by decide +kernel
theorem dX1_classify_32 : decode cX1_classify 32 = .ok (.bipush 48, 2) := by decide +kernel
theorem dX1_classify_34 : decode cX1_classify 34 = .ok (.if_icmp .lt 11, 3) := by decide +kernel
theorem dX1_classify_37 : decode cX1_classify 37 = .ok (.iload_n 2, 1) := by decide +kernel
theorem dX1_classify_38 : decode cX1_classify 38 = .ok (.bipush 57, 2) := by decide +kernel
theorem dX1_classify_40 : decode cX1_classify 40 = .ok (.if_icmp .gt 5, 3) := by decide +kernel
theorem dX1_classify_43 : decode cX1_classify 43 = .ok (.iconst 1, 1) := by decide +kernel
theorem dX1_classify_44 : decode cX1_classify 44 = .ok (.ireturn, 1) := by decide +kernel
theorem dX1_classify_45 : decode cX1_classify 45 = .ok (.iload_n 2, 1) := by decide +kernel
theorem dX1_classify_46 : decode cX1_classify 46 = .ok (.bipush 59, 2) := by decide +kernel
theorem dX1_classify_48 : decode cX1_classify 48 = .ok (.if_icmp .ne 7, 3) := by decide +kernel
theorem dX1_classify_51 : decode cX1_classify 51 = .ok (.iconst 2, 1) := by decide +kernel
theorem dX1_classify_52 : decode cX1_classify 52 = .ok (.goto 4, 3) := by decide +kernel
theorem dX1_classify_55 : decode cX1_classify 55 = .ok (.iconst 3, 1) := by decide +kernel
theorem dX1_classify_56 : decode cX1_classify 56 = .ok (.ireturn, 1) := by decide +kernel
theorem dX1_readLine_0 : decode cX1_readLine 0 = .ok (.aload_n 0, 1) := by decide +kernel
theorem dX1_readLine_1 : decode cX1_readLine 1 = .ok (.invokevirtual 66, 3) := by decide +kernel
theorem dX1_readLine_4 : decode cX1_readLine 4 = .ok (.istore_n 2, 1) := by decide +kernel
theorem dX1_readLine_5 : decode cX1_readLine 5 = .ok (.aload_n 0, 1) := by decide +kernel
theorem dX1_readLine_6 : decode cX1_readLine 6 = .ok (.iload_n 2, 1) := by decide +kernel
theorem dX1_readLine_7 : decode cX1_readLine 7 = .ok (.iload_n 1, 1) := by decide +kernel
theorem dX1_readLine_8 : decode cX1_readLine 8 = .ok (.invokevirtual 70, 3) := by decide +kernel
theorem dX1_readLine_11 : decode cX1_readLine 11 = .ok (.istore_n 3, 1) := by decide +kernel
theorem dX1_readLine_12 : decode cX1_readLine 12 = .ok (.iload_n 3, 1) := by decide +kernel
theorem dX1_readLine_13 : decode cX1_readLine 13 = .ok (.ifCond .eq 13, 3) := by decide +kernel
theorem dX1_readLine_16 : decode cX1_readLine 16 = .ok (.aload_n 0, 1) := by decide +kernel
theorem dX1_readLine_17 : decode cX1_readLine 17 = .ok (.iload_n 3, 1) := by decide +kernel
theorem dX1_readLine_18 : decode cX1_readLine 18 = .ok (.aload_n 0, 1) := by decide +kernel
theorem dX1_readLine_19 : decode cX1_readLine 19 = .ok (.getfield 56, 3) := by decide +kernel
theorem dX1_readLine_22 : decode cX1_readLine 22 = .ok (.invokevirtual 73, 3) := by decide +kernel
theorem dX1_readLine_25 : decode cX1_readLine 25 = .ok (.return_, 1) := by decide +kernel
theorem dX1_readLine_26 : decode cX1_readLine 26 = .ok (.aload_n 0, 1) := by decide +kernel
theorem dX1_readLine_27 : decode cX1_readLine 27 = .ok (.dup, 1) := by decide +kernel
theorem dX1_readLine_28 : decode cX1_readLine 28 = .ok (.getfield 43, 3) := by decide +kernel
theorem dX1_readLine_31 : decode cX1_readLine 31 = .ok (.iconst 1, 1) := by decide +kernel
theorem dX1_readLine_32 : decode cX1_readLine 32 = .ok (.iload_n 2, 1) := by decide +kernel
theorem dX1_readLine_33 : decode cX1_readLine 33 = .ok (.ishl, 1) := by decide +kernel
theorem dX1_readLine_34 : decode cX1_readLine 34 = .ok (.ior, 1) := by decide +kernel
theorem dX1_readLine_35 : decode cX1_readLine 35 = .ok (.putfield 43, 3) := by decide +kernel
theorem dX1_readLine_38 : decode cX1_readLine 38 = .ok (.aload_n 0, 1) := by decide +kernel
theorem dX1_readLine_39 : decode cX1_readLine 39 = .ok (.invokevirtual 46, 3) := by decide +kernel
theorem dX1_readLine_42 : decode cX1_readLine 42 = .ok (.iload_n 2, 1) := by decide +kernel
theorem dX1_readLine_43 : decode cX1_readLine 43 = .ok (.iconst 4, 1) := by decide +kernel
theorem dX1_readLine_44 : decode cX1_readLine 44 = .ok (.if_icmp .gt 11, 3) := by decide +kernel
theorem dX1_readLine_47 : decode cX1_readLine 47 = .ok (.aload_n 0, 1) := by decide +kernel
theorem dX1_readLine_48 : decode cX1_readLine 48 = .ok (.iload_n 2, 1) := by decide +kernel
theorem dX1_readLine_49 : decode cX1_readLine 49 = .ok (.invokevirtual 77, 3) := by decide +kernel
theorem dX1_readLine_52 : decode cX1_readLine 52 = .ok (.goto 34, 3) := by decide +kernel
theorem dX1_readLine_55 : decode cX1_readLine 55 = .ok (.iload_n 2, 1) := by decide +kernel
theorem dX1_readLine_56 : decode cX1_readLine 56 = .ok (.bipush 6, 2) := by decide +kernel
theorem dX1_readLine_58 : decode cX1_readLine 58 = .ok (.if_icmp .ne 10, 3) := by decide +kernel
theorem dX1_readLine_61 : decode cX1_readLine 61 = .ok (.aload_n 0, 1) := by decide +kernel
theorem dX1_readLine_62 : decode cX1_readLine 62 = .ok (.invokevirtual 80, 3) := by decide +kernel
theorem dX1_readLine_65 : decode cX1_readLine 65 = .ok (.goto 21, 3) := by decide +kernel
theorem dX1_readLine_68 : decode cX1_readLine 68 = .ok (.iload_n 2, 1) := by decide +kernel
theorem dX1_readLine_69 : decode cX1_readLine 69 = .ok (.bipush 11, 2) := by decide +kernel
theorem dX1_readLine_71 : decode cX1_readLine 71 = .ok (.if_icmp .ne 10, 3) := by decide +kernel
theorem dX1_readLine_74 : decode cX1_readLine 74 = .ok (.aload_n 0, 1) := by decide +kernel
theorem dX1_readLine_75 : decode cX1_readLine 75 = .ok (.invokevirtual 83, 3) := by decide +kernel
theorem dX1_readLine_78 : decode cX1_readLine 78 = .ok (.goto 8, 3) := by decide +kernel
theorem dX1_readLine_81 : decode cX1_readLine 81 = .ok (.aload_n 0, 1) := by decide +kernel
theorem dX1_readLine_82 : decode cX1_readLine 82 = .ok (.iload_n 2, 1) := by decide +kernel
theorem dX1_readLine_83 : decode cX1_readLine 83 = .ok (.invokevirtual 86, 3) := by decide +kernel
theorem dX1_readLine_86 : decode cX1_readLine 86 = .ok (.aload_n 0, 1) := by decide +kernel
theorem dX1_readLine_87 : decode cX1_readLine 87 = .ok (.getfield 49, 3) := by decide +kernel
theorem dX1_readLine_90 : decode cX1_readLine 90 = .ok (.iconst 2, 1) := by decide +kernel
theorem dX1_readLine_91 : decode cX1_readLine 91 = .ok (.if_icmp .eq 12, 3) := by decide +kernel
theorem dX1_readLine_94 : decode cX1_readLine 94 = .ok (.aload_n 0, 1) := by decide +kernel
theorem dX1_readLine_95 : decode cX1_readLine 95 = .ok (.iconst 1, 1) := by decide +kernel
theorem dX1_readLine_96 : decode cX1_readLine 96 = .ok (.aload_n 0, 1) := by decide +kernel
theorem dX1_readLine_97 : decode cX1_readLine 97 = .ok (.getfield 56, 3) := by decide +kernel
theorem dX1_readLine_100 : decode cX1_readLine 100 = .ok (.invokevirtual 73, 3) := by decide +kernel
theorem dX1_readLine_103 : decode cX1_readLine 103 = .ok (.aload_n 0, 1) := by decide +kernel
theorem dX1_readLine_104 : decode cX1_readLine 104 = .ok (.invokevirtual 46, 3) := by decide +kernel
theorem dX1_readLine_107 : decode cX1_readLine 107 = .ok (.return_, 1) := by decide +kernel
theorem dX1_findWord_0 : decode cX1_findWord 0 = .ok (.aload_n 0, 1) := by decide +kernel
theorem dX1_findWord_1 : decode cX1_findWord 1 = .ok (.getfield 49, 3) := by decide +kernel
theorem dX1_findWord_4 : decode cX1_findWord 4 = .ok (.ifCond .eq 5, 3) := by decide +kernel
theorem dX1_findWord_7 : decode cX1_findWord 7 = .ok (.iconst (-1), 1) := by decide +kernel
theorem dX1_findWord_8 : decode cX1_findWord 8 = .ok (.ireturn, 1) := by decide +kernel
theorem dX1_findWord_9 : decode cX1_findWord 9 = .ok (.iconst 0, 1) := by decide +kernel
theorem dX1_findWord_10 : decode cX1_findWord 10 = .ok (.istore_n 1, 1) := by decide +kernel
theorem dX1_findWord_11 : decode cX1_findWord 11 = .ok (.iconst 0, 1) := by decide +kernel
theorem dX1_findWord_12 : decode cX1_findWord 12 = .ok (.istore_n 2, 1) := by decide +kernel
theorem dX1_findWord_13 : decode cX1_findWord 13 = .ok (.iconst 0, 1) := by decide +kernel
theorem dX1_findWord_14 : decode cX1_findWord 14 = .ok (.istore_n 3, 1) := by decide +kernel
theorem dX1_findWord_15 : decode cX1_findWord 15 = .ok (.iload_n 3, 1) := by decide +kernel
theorem dX1_findWord_16 : decode cX1_findWord 16 = .ok (.ldc 89, 2) := by decide +kernel
theorem dX1_findWord_18 : decode cX1_findWord 18 = .ok (.invokevirtual 91, 3) := by decide +kernel
theorem dX1_findWord_21 : decode cX1_findWord 21 = .ok (.if_icmp .ge 38, 3) := by decide +kernel
theorem dX1_findWord_24 : decode cX1_findWord 24 = .ok (.ldc 89, 2) := by decide +kernel
theorem dX1_findWord_26 : decode cX1_findWord 26 = .ok (.iload_n 3, 1) := by decide +kernel
theorem dX1_findWord_27 : decode cX1_findWord 27 = .ok (.invokevirtual 95, 3) := by decide +kernel
theorem dX1_findWord_30 : decode cX1_findWord 30 = .ok (.bipush 32, 2) := by decide +kernel
theorem dX1_findWord_32 : decode cX1_findWord 32 = .ok (.if_icmp .ne 21, 3) := by decide +kernel
theorem dX1_findWord_35 : decode cX1_findWord 35 = .ok (.aload_n 0, 1) := by decide +kernel
theorem dX1_findWord_36 : decode cX1_findWord 36 = .ok (.iload_n 2, 1) := by decide +kernel
theorem dX1_findWord_37 : decode cX1_findWord 37 = .ok (.iload_n 3, 1) := by decide +kernel
theorem dX1_findWord_38 : decode cX1_findWord 38 = .ok (.invokevirtual 99, 3) := by decide +kernel
theorem dX1_findWord_41 : decode cX1_findWord 41 = .ok (.ifCond .eq 5, 3) := by decide +kernel
theorem dX1_findWord_44 : decode cX1_findWord 44 = .ok (.iload_n 1, 1) := by decide +kernel
theorem dX1_findWord_45 : decode cX1_findWord 45 = .ok (.ireturn, 1) := by decide +kernel
theorem dX1_findWord_46 : decode cX1_findWord 46 = .ok (.iinc 1 1, 3) := by decide +kernel
theorem dX1_findWord_49 : decode cX1_findWord 49 = .ok (.iload_n 3, 1) := by decide +kernel
theorem dX1_findWord_50 : decode cX1_findWord 50 = .ok (.iconst 1, 1) := by decide +kernel
theorem dX1_findWord_51 : decode cX1_findWord 51 = .ok (.iadd, 1) := by decide +kernel
theorem dX1_findWord_52 : decode cX1_findWord 52 = .ok (.istore_n 2, 1) := by decide +kernel
theorem dX1_findWord_53 : decode cX1_findWord 53 = .ok (.iinc 3 1, 3) := by decide +kernel
theorem dX1_findWord_56 : decode cX1_findWord 56 = .ok (.goto (-41), 3) := by decide +kernel
theorem dX1_findWord_59 : decode cX1_findWord 59 = .ok (.iconst (-1), 1) := by decide +kernel
theorem dX1_findWord_60 : decode cX1_findWord 60 = .ok (.ireturn, 1) := by decide +kernel
theorem dX1_isSpelt_0 : decode cX1_isSpelt 0 = .ok (.iload_n 2, 1) := by decide +kernel
theorem dX1_isSpelt_1 : decode cX1_isSpelt 1 = .ok (.iload_n 1, 1) := by decide +kernel
theorem dX1_isSpelt_2 : decode cX1_isSpelt 2 = .ok (.isub, 1) := by decide +kernel
theorem dX1_isSpelt_3 : decode cX1_isSpelt 3 = .ok (.aload_n 0, 1) := by decide +kernel
theorem dX1_isSpelt_4 : decode cX1_isSpelt 4 = .ok (.getfield 40, 3) := by decide +kernel
theorem dX1_isSpelt_7 : decode cX1_isSpelt 7 = .ok (.aload_n 0, 1) := by decide +kernel
theorem dX1_isSpelt_8 : decode cX1_isSpelt 8 = .ok (.getfield 56, 3) := by decide +kernel
theorem dX1_isSpelt_11 : decode cX1_isSpelt 11 = .ok (.isub, 1) := by decide +kernel
theorem dX1_isSpelt_12 : decode cX1_isSpelt 12 = .ok (.if_icmp .eq 5, 3) := by decide +kernel
theorem dX1_isSpelt_15 : decode cX1_isSpelt 15 = .ok (.iconst 0, 1) := by decide +kernel
theorem dX1_isSpelt_16 : decode cX1_isSpelt 16 = .ok (.ireturn, 1) := by decide +kernel
theorem dX1_isSpelt_17 : decode cX1_isSpelt 17 = .ok (.iload_n 1, 1) := by decide +kernel
theorem dX1_isSpelt_18 : decode cX1_isSpelt 18 = .ok (.istore_n 3, 1) := by decide +kernel
theorem dX1_isSpelt_19 : decode cX1_isSpelt 19 = .ok (.iload_n 3, 1) := by decide +kernel
theorem dX1_isSpelt_20 : decode cX1_isSpelt 20 = .ok (.iload_n 2, 1) := by decide +kernel
theorem dX1_isSpelt_21 : decode cX1_isSpelt 21 = .ok (.if_icmp .ge 33, 3) := by decide +kernel
theorem dX1_isSpelt_24 : decode cX1_isSpelt 24 = .ok (.ldc 89, 2) := by decide +kernel
theorem dX1_isSpelt_26 : decode cX1_isSpelt 26 = .ok (.iload_n 3, 1) := by decide +kernel
theorem dX1_isSpelt_27 : decode cX1_isSpelt 27 = .ok (.invokevirtual 95, 3) := by decide +kernel
theorem dX1_isSpelt_30 : decode cX1_isSpelt 30 = .ok (.aload_n 0, 1) := by decide +kernel
theorem dX1_isSpelt_31 : decode cX1_isSpelt 31 = .ok (.getfield 9, 3) := by decide +kernel
theorem dX1_isSpelt_34 : decode cX1_isSpelt 34 = .ok (.aload_n 0, 1) := by decide +kernel
theorem dX1_isSpelt_35 : decode cX1_isSpelt 35 = .ok (.getfield 56, 3) := by decide +kernel
theorem dX1_isSpelt_38 : decode cX1_isSpelt 38 = .ok (.iload_n 3, 1) := by decide +kernel
theorem dX1_isSpelt_39 : decode cX1_isSpelt 39 = .ok (.iadd, 1) := by decide +kernel
theorem dX1_isSpelt_40 : decode cX1_isSpelt 40 = .ok (.iload_n 1, 1) := by decide +kernel
theorem dX1_isSpelt_41 : decode cX1_isSpelt 41 = .ok (.isub, 1) := by decide +kernel
theorem dX1_isSpelt_42 : decode cX1_isSpelt 42 = .ok (.iaload, 1) := by decide +kernel
theorem dX1_isSpelt_43 : decode cX1_isSpelt 43 = .ok (.if_icmp .eq 5, 3) := by decide +kernel
theorem dX1_isSpelt_46 : decode cX1_isSpelt 46 = .ok (.iconst 0, 1) := by decide +kernel
theorem dX1_isSpelt_47 : decode cX1_isSpelt 47 = .ok (.ireturn, 1) := by decide +kernel
theorem dX1_isSpelt_48 : decode cX1_isSpelt 48 = .ok (.iinc 3 1, 3) := by decide +kernel
theorem dX1_isSpelt_51 : decode cX1_isSpelt 51 = .ok (.goto (-32), 3) := by decide +kernel
theorem dX1_isSpelt_54 : decode cX1_isSpelt 54 = .ok (.iconst 1, 1) := by decide +kernel
theorem dX1_isSpelt_55 : decode cX1_isSpelt 55 = .ok (.ireturn, 1) := by decide +kernel
theorem dX1_judgeWord_0 : decode cX1_judgeWord 0 = .ok (.iload_n 1, 1) := by decide +kernel
theorem dX1_judgeWord_1 : decode cX1_judgeWord 1 = .ok (.iconst (-1), 1) := by decide +kernel
theorem dX1_judgeWord_2 : decode cX1_judgeWord 2 = .ok (.if_icmp .ne 5, 3) := by decide +kernel
theorem dX1_judgeWord_5 : decode cX1_judgeWord 5 = .ok (.iconst 1, 1) := by decide +kernel
theorem dX1_judgeWord_6 : decode cX1_judgeWord 6 = .ok (.ireturn, 1) := by decide +kernel
theorem dX1_judgeWord_7 : decode cX1_judgeWord 7 = .ok (.iload_n 1, 1) := by decide +kernel
theorem dX1_judgeWord_8 : decode cX1_judgeWord 8 = .ok (.iconst 4, 1) := by decide +kernel
theorem dX1_judgeWord_9 : decode cX1_judgeWord 9 = .ok (.if_icmp .gt 21, 3) := by decide +kernel
theorem dX1_judgeWord_12 : decode cX1_judgeWord 12 = .ok (.aload_n 0, 1) := by decide +kernel
theorem dX1_judgeWord_13 : decode cX1_judgeWord 13 = .ok (.getfield 15, 3) := by decide +kernel
theorem dX1_judgeWord_16 : decode cX1_judgeWord 16 = .ok (.getfield 103, 3) := by decide +kernel
theorem dX1_judgeWord_19 : decode cX1_judgeWord 19 = .ok (.bipush 6, 2) := by decide +kernel
theorem dX1_judgeWord_21 : decode cX1_judgeWord 21 = .ok (.if_icmp .lt 7, 3) := by decide +kernel
theorem dX1_judgeWord_24 : decode cX1_judgeWord 24 = .ok (.iconst 2, 1) := by decide +kernel
theorem dX1_judgeWord_25 : decode cX1_judgeWord 25 = .ok (.goto 4, 3) := by decide +kernel
theorem dX1_judgeWord_28 : decode cX1_judgeWord 28 = .ok (.iconst 0, 1) := by decide +kernel
theorem dX1_judgeWord_29 : decode cX1_judgeWord 29 = .ok (.ireturn, 1) := by decide +kernel
theorem dX1_judgeWord_30 : decode cX1_judgeWord 30 = .ok (.iload_n 1, 1) := by decide +kernel
theorem dX1_judgeWord_31 : decode cX1_judgeWord 31 = .ok (.bipush 11, 2) := by decide +kernel
theorem dX1_judgeWord_33 : decode cX1_judgeWord 33 = .ok (.if_icmp .ne 21, 3) := by decide +kernel
theorem dX1_judgeWord_36 : decode cX1_judgeWord 36 = .ok (.aload_n 0, 1) := by decide +kernel
theorem dX1_judgeWord_37 : decode cX1_judgeWord 37 = .ok (.getfield 15, 3) := by decide +kernel
theorem dX1_judgeWord_40 : decode cX1_judgeWord 40 = .ok (.getfield 106, 3) := by decide +kernel
theorem dX1_judgeWord_43 : decode cX1_judgeWord 43 = .ok (.bipush 10, 2) := by decide +kernel
theorem dX1_judgeWord_45 : decode cX1_judgeWord 45 = .ok (.if_icmp .lt 7, 3) := by decide +kernel
theorem dX1_judgeWord_48 : decode cX1_judgeWord 48 = .ok (.iconst 2, 1) := by decide +kernel
theorem dX1_judgeWord_49 : decode cX1_judgeWord 49 = .ok (.goto 4, 3) := by decide +kernel
theorem dX1_judgeWord_52 : decode cX1_judgeWord 52 = .ok (.iconst 0, 1) := by decide +kernel
theorem dX1_judgeWord_53 : decode cX1_judgeWord 53 = .ok (.ireturn, 1) := by decide +kernel
theorem dX1_judgeWord_54 : decode cX1_judgeWord 54 = .ok (.iload_n 1, 1) := by decide +kernel
theorem dX1_judgeWord_55 : decode cX1_judgeWord 55 = .ok (.bipush 6, 2) := by decide +kernel
theorem dX1_judgeWord_57 : decode cX1_judgeWord 57 = .ok (.if_icmp .ne 5, 3) := by decide +kernel
theorem dX1_judgeWord_60 : decode cX1_judgeWord 60 = .ok (.iconst 0, 1) := by decide +kernel
theorem dX1_judgeWord_61 : decode cX1_judgeWord 61 = .ok (.ireturn, 1) := by decide +kernel
theorem dX1_judgeWord_62 : decode cX1_judgeWord 62 = .ok (.iload_n 1, 1) := by decide +kernel
theorem dX1_judgeWord_63 : decode cX1_judgeWord 63 = .ok (.iconst 5, 1) := by decide +kernel
theorem dX1_judgeWord_64 : decode cX1_judgeWord 64 = .ok (.if_icmp .ne 15, 3) := by decide +kernel
theorem dX1_judgeWord_67 : decode cX1_judgeWord 67 = .ok (.iload_n 2, 1) := by decide +kernel
theorem dX1_judgeWord_68 : decode cX1_judgeWord 68 = .ok (.ifCond .le 7, 3) := by decide +kernel
theorem dX1_judgeWord_71 : decode cX1_judgeWord 71 = .ok (.iconst 1, 1) := by decide +kernel
theorem dX1_judgeWord_72 : decode cX1_judgeWord 72 = .ok (.goto 23, 3) := by decide +kernel
theorem dX1_judgeWord_75 : decode cX1_judgeWord 75 = .ok (.iconst 0, 1) := by decide +kernel
theorem dX1_judgeWord_76 : decode cX1_judgeWord 76 = .ok (.goto 19, 3) := by decide +kernel
theorem dX1_judgeWord_79 : decode cX1_judgeWord 79 = .ok (.aload_n 0, 1) := by decide +kernel
theorem dX1_judgeWord_80 : decode cX1_judgeWord 80 = .ok (.getfield 43, 3) := by decide +kernel
theorem dX1_judgeWord_83 : decode cX1_judgeWord 83 = .ok (.iload_n 1, 1) := by decide +kernel
theorem dX1_judgeWord_84 : decode cX1_judgeWord 84 = .ok (.iushr, 1) := by decide +kernel
theorem dX1_judgeWord_85 : decode cX1_judgeWord 85 = .ok (.iconst 1, 1) := by decide +kernel
theorem dX1_judgeWord_86 : decode cX1_judgeWord 86 = .ok (.iand, 1) := by decide +kernel
theorem dX1_judgeWord_87 : decode cX1_judgeWord 87 = .ok (.ifCond .eq 7, 3) := by decide +kernel
theorem dX1_judgeWord_90 : decode cX1_judgeWord 90 = .ok (.iconst 1, 1) := by decide +kernel
theorem dX1_judgeWord_91 : decode cX1_judgeWord 91 = .ok (.goto 4, 3) := by decide +kernel
theorem dX1_judgeWord_94 : decode cX1_judgeWord 94 = .ok (.iconst 0, 1) := by decide +kernel
theorem dX1_judgeWord_95 : decode cX1_judgeWord 95 = .ok (.istore_n 3, 1) := by decide +kernel
theorem dX1_judgeWord_96 : decode cX1_judgeWord 96 = .ok (.iload_n 3, 1) := by decide +kernel
theorem dX1_judgeWord_97 : decode cX1_judgeWord 97 = .ok (.ifCond .eq 7, 3) := by decide +kernel
theorem dX1_judgeWord_100 : decode cX1_judgeWord 100 = .ok (.iconst 4, 1) := by decide +kernel
theorem dX1_judgeWord_101 : decode cX1_judgeWord 101 = .ok (.goto 4, 3) := by decide +kernel
theorem dX1_judgeWord_104 : decode cX1_judgeWord 104 = .ok (.iconst 0, 1) := by decide +kernel
theorem dX1_judgeWord_105 : decode cX1_judgeWord 105 = .ok (.ireturn, 1) := by decide +kernel
theorem dX1_readKind_0 : decode cX1_readKind 0 = .ok (.aload_n 0, 1) := by decide +kernel
theorem dX1_readKind_1 : decode cX1_readKind 1 = .ok (.iconst 0, 1) := by decide +kernel
theorem dX1_readKind_2 : decode cX1_readKind 2 = .ok (.iconst 1, 1) := by decide +kernel
theorem dX1_readKind_3 : decode cX1_readKind 3 = .ok (.iconst 2, 1) := by decide +kernel
theorem dX1_readKind_4 : decode cX1_readKind 4 = .ok (.invokevirtual 109, 3) := by decide +kernel
theorem dX1_readKind_7 : decode cX1_readKind 7 = .ok (.istore_n 2, 1) := by decide +kernel
theorem dX1_readKind_8 : decode cX1_readKind 8 = .ok (.aload_n 0, 1) := by decide +kernel
theorem dX1_readKind_9 : decode cX1_readKind 9 = .ok (.iconst 0, 1) := by decide +kernel
theorem dX1_readKind_10 : decode cX1_readKind 10 = .ok (.aload_n 0, 1) := by decide +kernel
theorem dX1_readKind_11 : decode cX1_readKind 11 = .ok (.getfield 15, 3) := by decide +kernel
theorem dX1_readKind_14 : decode cX1_readKind 14 = .ok (.getfield 113, 3) := by decide +kernel
theorem dX1_readKind_17 : decode cX1_readKind 17 = .ok (.iconst 2, 1) := by decide +kernel
theorem dX1_readKind_18 : decode cX1_readKind 18 = .ok (.invokevirtual 109, 3) := by decide +kernel
theorem dX1_readKind_21 : decode cX1_readKind 21 = .ok (.istore_n 3, 1) := by decide +kernel
theorem dX1_readKind_22 : decode cX1_readKind 22 = .ok (.aload_n 0, 1) := by decide +kernel
theorem dX1_readKind_23 : decode cX1_readKind 23 = .ok (.iconst 0, 1) := by decide +kernel
theorem dX1_readKind_24 : decode cX1_readKind 24 = .ok (.aload_n 0, 1) := by decide +kernel
theorem dX1_readKind_25 : decode cX1_readKind 25 = .ok (.getfield 15, 3) := by decide +kernel
theorem dX1_readKind_28 : decode cX1_readKind 28 = .ok (.getfield 113, 3) := by decide +kernel
theorem dX1_readKind_31 : decode cX1_readKind 31 = .ok (.iload_n 3, 1) := by decide +kernel
theorem dX1_readKind_32 : decode cX1_readKind 32 = .ok (.isub, 1) := by decide +kernel
theorem dX1_readKind_33 : decode cX1_readKind 33 = .ok (.iconst 2, 1) := by decide +kernel
theorem dX1_readKind_34 : decode cX1_readKind 34 = .ok (.invokevirtual 109, 3) := by decide +kernel
theorem dX1_readKind_37 : decode cX1_readKind 37 = .ok (.istore 4, 2) := by decide +kernel
theorem dX1_readKind_39 : decode cX1_readKind 39 = .ok (.aload_n 0, 1) := by decide +kernel
theorem dX1_readKind_40 : decode cX1_readKind 40 = .ok (.getfield 34, 3) := by decide +kernel
theorem dX1_readKind_43 : decode cX1_readKind 43 = .ok (.ifCond .ne 15, 3) := by decide +kernel
theorem dX1_readKind_46 : decode cX1_readKind 46 = .ok (.aload_n 0, 1) := by decide +kernel
theorem dX1_readKind_47 : decode cX1_readKind 47 = .ok (.getfield 15, 3) := by decide +kernel
theorem dX1_readKind_50 : decode cX1_readKind 50 = .ok (.iload_n 1, 1) := by decide +kernel
theorem dX1_readKind_51 : decode cX1_readKind 51 = .ok (.iload_n 2, 1) := by decide +kernel
theorem dX1_readKind_52 : decode cX1_readKind 52 = .ok (.iload_n 3, 1) := by decide +kernel
theorem dX1_readKind_53 : decode cX1_readKind 53 = .ok (.iload 4, 2) := by decide +kernel
theorem dX1_readKind_55 : decode cX1_readKind 55 = .ok (.invokevirtual 116, 3) := by decide +kernel
theorem dX1_readKind_58 : decode cX1_readKind 58 = .ok (.return_, 1) := by decide +kernel
theorem dX1_readLikes_0 : decode cX1_readLikes 0 = .ok (.aload_n 0, 1) := by decide +kernel
theorem dX1_readLikes_1 : decode cX1_readLikes 1 = .ok (.invokevirtual 120, 3) := by decide +kernel
theorem dX1_readLikes_4 : decode cX1_readLikes 4 = .ok (.istore_n 1, 1) := by decide +kernel
theorem dX1_readLikes_5 : decode cX1_readLikes 5 = .ok (.aload_n 0, 1) := by decide +kernel
theorem dX1_readLikes_6 : decode cX1_readLikes 6 = .ok (.getfield 34, 3) := by decide +kernel
theorem dX1_readLikes_9 : decode cX1_readLikes 9 = .ok (.ifCond .ne 25, 3) := by decide +kernel
theorem dX1_readLikes_12 : decode cX1_readLikes 12 = .ok (.aload_n 0, 1) := by decide +kernel
theorem dX1_readLikes_13 : decode cX1_readLikes 13 = .ok (.getfield 15, 3) := by decide +kernel
theorem dX1_readLikes_16 : decode cX1_readLikes 16 = .ok (.getfield 123, 3) := by decide +kernel
theorem dX1_readLikes_19 : decode cX1_readLikes 19 = .ok (.iload_n 1, 1) := by decide +kernel
theorem dX1_readLikes_20 : decode cX1_readLikes 20 = .ok (.iaload, 1) := by decide +kernel
theorem dX1_readLikes_21 : decode cX1_readLikes 21 = .ok (.iconst (-1), 1) := by decide +kernel
theorem dX1_readLikes_22 : decode cX1_readLikes 22 = .ok (.if_icmp .eq 12, 3) := by decide +kernel
theorem dX1_readLikes_25 : decode cX1_readLikes 25 = .ok (.aload_n 0, 1) := by decide +kernel
theorem dX1_readLikes_26 : decode cX1_readLikes 26 = .ok (.iconst 5, 1) := by decide +kernel
theorem dX1_readLikes_27 : decode cX1_readLikes 27 = .ok (.aload_n 0, 1) := by decide +kernel
theorem dX1_readLikes_28 : decode cX1_readLikes 28 = .ok (.getfield 59, 3) := by decide +kernel
theorem dX1_readLikes_31 : decode cX1_readLikes 31 = .ok (.invokevirtual 73, 3) := by decide +kernel
theorem dX1_readLikes_34 : decode cX1_readLikes 34 = .ok (.aload_n 0, 1) := by decide +kernel
theorem dX1_readLikes_35 : decode cX1_readLikes 35 = .ok (.invokevirtual 120, 3) := by decide +kernel
theorem dX1_readLikes_38 : decode cX1_readLikes 38 = .ok (.istore_n 2, 1) := by decide +kernel
theorem dX1_readLikes_39 : decode cX1_readLikes 39 = .ok (.iload_n 2, 1) := by decide +kernel
theorem dX1_readLikes_40 : decode cX1_readLikes 40 = .ok (.iload_n 1, 1) := by decide +kernel
theorem dX1_readLikes_41 : decode cX1_readLikes 41 = .ok (.if_icmp .ne 12, 3) := by decide +kernel
theorem dX1_readLikes_44 : decode cX1_readLikes 44 = .ok (.aload_n 0, 1) := by decide +kernel
theorem dX1_readLikes_45 : decode cX1_readLikes 45 = .ok (.iconst 5, 1) := by decide +kernel
theorem dX1_readLikes_46 : decode cX1_readLikes 46 = .ok (.aload_n 0, 1) := by decide +kernel
theorem dX1_readLikes_47 : decode cX1_readLikes 47 = .ok (.getfield 59, 3) := by decide +kernel
theorem dX1_readLikes_50 : decode cX1_readLikes 50 = .ok (.invokevirtual 73, 3) := by decide +kernel
theorem dX1_readLikes_53 : decode cX1_readLikes 53 = .ok (.aload_n 0, 1) := by decide +kernel
theorem dX1_readLikes_54 : decode cX1_readLikes 54 = .ok (.getfield 34, 3) := by decide +kernel
theorem dX1_readLikes_57 : decode cX1_readLikes 57 = .ok (.ifCond .ne 13, 3) := by decide +kernel
theorem dX1_readLikes_60 : decode cX1_readLikes 60 = .ok (.aload_n 0, 1) := by decide +kernel
theorem dX1_readLikes_61 : decode cX1_readLikes 61 = .ok (.getfield 15, 3) := by decide +kernel
theorem dX1_readLikes_64 : decode cX1_readLikes 64 = .ok (.getfield 123, 3) := by decide +kernel
theorem dX1_readLikes_67 : decode cX1_readLikes 67 = .ok (.iload_n 1, 1) := by decide +kernel
theorem dX1_readLikes_68 : decode cX1_readLikes 68 = .ok (.iload_n 2, 1) := by decide +kernel
theorem dX1_readLikes_69 : decode cX1_readLikes 69 = .ok (.iastore, 1) := by decide +kernel
theorem dX1_readLikes_70 : decode cX1_readLikes 70 = .ok (.return_, 1) := by decide +kernel
theorem dX1_readFog_0 : decode cX1_readFog 0 = .ok (.aload_n 0, 1) := by decide +kernel
theorem dX1_readFog_1 : decode cX1_readFog 1 = .ok (.iconst 0, 1) := by decide +kernel
theorem dX1_readFog_2 : decode cX1_readFog 2 = .ok (.bipush 99, 2) := by decide +kernel
theorem dX1_readFog_4 : decode cX1_readFog 4 = .ok (.iconst 2, 1) := by decide +kernel
theorem dX1_readFog_5 : decode cX1_readFog 5 = .ok (.invokevirtual 109, 3) := by decide +kernel
theorem dX1_readFog_8 : decode cX1_readFog 8 = .ok (.istore_n 1, 1) := by decide +kernel
theorem dX1_readFog_9 : decode cX1_readFog 9 = .ok (.aload_n 0, 1) := by decide +kernel
theorem dX1_readFog_10 : decode cX1_readFog 10 = .ok (.invokevirtual 120, 3) := by decide +kernel
theorem dX1_readFog_13 : decode cX1_readFog 13 = .ok (.istore_n 2, 1) := by decide +kernel
theorem dX1_readFog_14 : decode cX1_readFog 14 = .ok (.aload_n 0, 1) := by decide +kernel
theorem dX1_readFog_15 : decode cX1_readFog 15 = .ok (.invokevirtual 120, 3) := by decide +kernel
theorem dX1_readFog_18 : decode cX1_readFog 18 = .ok (.istore_n 3, 1) := by decide +kernel
theorem dX1_readFog_19 : decode cX1_readFog 19 = .ok (.iload_n 2, 1) := by decide +kernel
theorem dX1_readFog_20 : decode cX1_readFog 20 = .ok (.iload_n 3, 1) := by decide +kernel
theorem dX1_readFog_21 : decode cX1_readFog 21 = .ok (.if_icmp .ne 12, 3) := by decide +kernel
theorem dX1_readFog_24 : decode cX1_readFog 24 = .ok (.aload_n 0, 1) := by decide +kernel
theorem dX1_readFog_25 : decode cX1_readFog 25 = .ok (.iconst 5, 1) := by decide +kernel
theorem dX1_readFog_26 : decode cX1_readFog 26 = .ok (.aload_n 0, 1) := by decide +kernel
theorem dX1_readFog_27 : decode cX1_readFog 27 = .ok (.getfield 59, 3) := by decide +kernel
theorem dX1_readFog_30 : decode cX1_readFog 30 = .ok (.invokevirtual 73, 3) := by decide +kernel
theorem dX1_readFog_33 : decode cX1_readFog 33 = .ok (.aload_n 0, 1) := by decide +kernel
theorem dX1_readFog_34 : decode cX1_readFog 34 = .ok (.getfield 34, 3) := by decide +kernel
theorem dX1_readFog_37 : decode cX1_readFog 37 = .ok (.ifCond .ne 13, 3) := by decide +kernel
theorem dX1_readFog_40 : decode cX1_readFog 40 = .ok (.aload_n 0, 1) := by decide +kernel
theorem dX1_readFog_41 : decode cX1_readFog 41 = .ok (.getfield 15, 3) := by decide +kernel
theorem dX1_readFog_44 : decode cX1_readFog 44 = .ok (.iload_n 1, 1) := by decide +kernel
theorem dX1_readFog_45 : decode cX1_readFog 45 = .ok (.iload_n 2, 1) := by decide +kernel
theorem dX1_readFog_46 : decode cX1_readFog 46 = .ok (.iload_n 3, 1) := by decide +kernel
theorem dX1_readFog_47 : decode cX1_readFog 47 = .ok (.invokevirtual 126, 3) := by decide +kernel
theorem dX1_readFog_50 : decode cX1_readFog 50 = .ok (.return_, 1) := by decide +kernel
theorem dX1_readSetting_0 : decode cX1_readSetting 0 = .ok (.iload_n 1, 1) := by decide +kernel
theorem dX1_readSetting_1 : decode cX1_readSetting 1 = .ok (.tableswitch 129 5 10 #[39, 129, 57, 75, 93, 111], 39) := by decide +kernel
theorem dX1_readSetting_40 : decode cX1_readSetting 40 = .ok (.aload_n 0, 1) := by decide +kernel
theorem dX1_readSetting_41 : decode cX1_readSetting 41 = .ok (.getfield 15, 3) := by decide +kernel
theorem dX1_readSetting_44 : decode cX1_readSetting 44 = .ok (.aload_n 0, 1) := by decide +kernel
theorem dX1_readSetting_45 : decode cX1_readSetting 45 = .ok (.iconst 1, 1) := by decide +kernel
theorem dX1_readSetting_46 : decode cX1_readSetting 46 = .ok (.bipush 30, 2) := by decide +kernel
theorem dX1_readSetting_48 : decode cX1_readSetting 48 = .ok (.iconst 2, 1) := by decide +kernel
theorem dX1_readSetting_49 : decode cX1_readSetting 49 = .ok (.invokevirtual 109, 3) := by decide +kernel
theorem dX1_readSetting_52 : decode cX1_readSetting 52 = .ok (.putfield 113, 3) := by decide +kernel
theorem dX1_readSetting_55 : decode cX1_readSetting 55 = .ok (.goto 75, 3) := by decide +kernel
theorem dX1_readSetting_58 : decode cX1_readSetting 58 = .ok (.aload_n 0, 1) := by decide +kernel
theorem dX1_readSetting_59 : decode cX1_readSetting 59 = .ok (.getfield 15, 3) := by decide +kernel
theorem dX1_readSetting_62 : decode cX1_readSetting 62 = .ok (.aload_n 0, 1) := by decide +kernel
theorem dX1_readSetting_63 : decode cX1_readSetting 63 = .ok (.iconst 1, 1) := by decide +kernel
theorem dX1_readSetting_64 : decode cX1_readSetting 64 = .ok (.bipush 9, 2) := by decide +kernel
theorem dX1_readSetting_66 : decode cX1_readSetting 66 = .ok (.iconst 2, 1) := by decide +kernel
theorem dX1_readSetting_67 : decode cX1_readSetting 67 = .ok (.invokevirtual 109, 3) := by decide +kernel
theorem dX1_readSetting_70 : decode cX1_readSetting 70 = .ok (.putfield 130, 3) := by decide +kernel
theorem dX1_readSetting_73 : decode cX1_readSetting 73 = .ok (.goto 57, 3) := by decide +kernel
theorem dX1_readSetting_76 : decode cX1_readSetting 76 = .ok (.aload_n 0, 1) := by decide +kernel
theorem dX1_readSetting_77 : decode cX1_readSetting 77 = .ok (.getfield 15, 3) := by decide +kernel
theorem dX1_readSetting_80 : decode cX1_readSetting 80 = .ok (.aload_n 0, 1) := by decide +kernel
theorem dX1_readSetting_81 : decode cX1_readSetting 81 = .ok (.iconst 0, 1) := by decide +kernel
theorem dX1_readSetting_82 : decode cX1_readSetting 82 = .ok (.bipush 9, 2) := by decide +kernel
theorem dX1_readSetting_84 : decode cX1_readSetting 84 = .ok (.iconst 2, 1) := by decide +kernel
theorem dX1_readSetting_85 : decode cX1_readSetting 85 = .ok (.invokevirtual 109, 3) := by decide +kernel
theorem dX1_readSetting_88 : decode cX1_readSetting 88 = .ok (.putfield 133, 3) := by decide +kernel
theorem dX1_readSetting_91 : decode cX1_readSetting 91 = .ok (.goto 39, 3) := by decide +kernel
theorem dX1_readSetting_94 : decode cX1_readSetting 94 = .ok (.aload_n 0, 1) := by decide +kernel
theorem dX1_readSetting_95 : decode cX1_readSetting 95 = .ok (.getfield 15, 3) := by decide +kernel
theorem dX1_readSetting_98 : decode cX1_readSetting 98 = .ok (.aload_n 0, 1) := by decide +kernel
theorem dX1_readSetting_99 : decode cX1_readSetting 99 = .ok (.iconst 0, 1) := by decide +kernel
theorem dX1_readSetting_100 : decode cX1_readSetting 100 = .ok (.bipush 9, 2) := by decide +kernel
theorem dX1_readSetting_102 : decode cX1_readSetting 102 = .ok (.iconst 2, 1) := by decide +kernel
theorem dX1_readSetting_103 : decode cX1_readSetting 103 = .ok (.invokevirtual 109, 3) := by decide +kernel
theorem dX1_readSetting_106 : decode cX1_readSetting 106 = .ok (.putfield 136, 3) := by decide +kernel
theorem dX1_readSetting_109 : decode cX1_readSetting 109 = .ok (.goto 21, 3) := by decide +kernel
theorem dX1_readSetting_112 : decode cX1_readSetting 112 = .ok (.aload_n 0, 1) := by decide +kernel
theorem dX1_readSetting_113 : decode cX1_readSetting 113 = .ok (.getfield 15, 3) := by decide +kernel
theorem dX1_readSetting_116 : decode cX1_readSetting 116 = .ok (.aload_n 0, 1) := by decide +kernel
theorem dX1_readSetting_117 : decode cX1_readSetting 117 = .ok (.iconst 1, 1) := by decide +kernel
theorem dX1_readSetting_118 : decode cX1_readSetting 118 = .ok (.bipush 99, 2) := by decide +kernel
theorem dX1_readSetting_120 : decode cX1_readSetting 120 = .ok (.iconst 2, 1) := by decide +kernel
theorem dX1_readSetting_121 : decode cX1_readSetting 121 = .ok (.invokevirtual 109, 3) := by decide +kernel
theorem dX1_readSetting_124 : decode cX1_readSetting 124 = .ok (.putfield 139, 3) := by decide +kernel
theorem dX1_readSetting_127 : decode cX1_readSetting 127 = .ok (.goto 3, 3) := by decide +kernel
theorem dX1_readSetting_130 : decode cX1_readSetting 130 = .ok (.return_, 1) := by decide +kernel
theorem dX1_readLamp_0 : decode cX1_readLamp 0 = .ok (.aload_n 0, 1) := by decide +kernel
theorem dX1_readLamp_1 : decode cX1_readLamp 1 = .ok (.iconst 0, 1) := by decide +kernel
theorem dX1_readLamp_2 : decode cX1_readLamp 2 = .ok (.aload_n 0, 1) := by decide +kernel
theorem dX1_readLamp_3 : decode cX1_readLamp 3 = .ok (.getfield 15, 3) := by decide +kernel
theorem dX1_readLamp_6 : decode cX1_readLamp 6 = .ok (.getfield 103, 3) := by decide +kernel
theorem dX1_readLamp_9 : decode cX1_readLamp 9 = .ok (.iconst 1, 1) := by decide +kernel
theorem dX1_readLamp_10 : decode cX1_readLamp 10 = .ok (.isub, 1) := by decide +kernel
theorem dX1_readLamp_11 : decode cX1_readLamp 11 = .ok (.iconst 3, 1) := by decide +kernel
theorem dX1_readLamp_12 : decode cX1_readLamp 12 = .ok (.invokevirtual 109, 3) := by decide +kernel
theorem dX1_readLamp_15 : decode cX1_readLamp 15 = .ok (.ireturn, 1) := by decide +kernel
theorem dX1_readNumber_0 : decode cX1_readNumber 0 = .ok (.iconst 0, 1) := by decide +kernel
theorem dX1_readNumber_1 : decode cX1_readNumber 1 = .ok (.istore 4, 2) := by decide +kernel
theorem dX1_readNumber_3 : decode cX1_readNumber 3 = .ok (.aload_n 0, 1) := by decide +kernel
theorem dX1_readNumber_4 : decode cX1_readNumber 4 = .ok (.getfield 56, 3) := by decide +kernel
theorem dX1_readNumber_7 : decode cX1_readNumber 7 = .ok (.istore 5, 2) := by decide +kernel
theorem dX1_readNumber_9 : decode cX1_readNumber 9 = .ok (.iload 5, 2) := by decide +kernel
theorem dX1_readNumber_11 : decode cX1_readNumber 11 = .ok (.aload_n 0, 1) := by decide +kernel
theorem dX1_readNumber_12 : decode cX1_readNumber 12 = .ok (.getfield 40, 3) := by decide +kernel
theorem dX1_readNumber_15 : decode cX1_readNumber 15 = .ok (.if_icmp .ge 35, 3) := by decide +kernel
theorem dX1_readNumber_18 : decode cX1_readNumber 18 = .ok (.aload_n 0, 1) := by decide +kernel
theorem dX1_readNumber_19 : decode cX1_readNumber 19 = .ok (.getfield 49, 3) := by decide +kernel
theorem dX1_readNumber_22 : decode cX1_readNumber 22 = .ok (.iconst 1, 1) := by decide +kernel
theorem dX1_readNumber_23 : decode cX1_readNumber 23 = .ok (.if_icmp .ne 27, 3) := by decide +kernel
theorem dX1_readNumber_26 : decode cX1_readNumber 26 = .ok (.iload 4, 2) := by decide +kernel
theorem dX1_readNumber_28 : decode cX1_readNumber 28 = .ok (.bipush 10, 2) := by decide +kernel
theorem dX1_readNumber_30 : decode cX1_readNumber 30 = .ok (.imul, 1) := by decide +kernel
theorem dX1_readNumber_31 : decode cX1_readNumber 31 = .ok (.aload_n 0, 1) := by decide +kernel
theorem dX1_readNumber_32 : decode cX1_readNumber 32 = .ok (.getfield 9, 3) := by decide +kernel
theorem dX1_readNumber_35 : decode cX1_readNumber 35 = .ok (.iload 5, 2) := by decide +kernel
theorem dX1_readNumber_37 : decode cX1_readNumber 37 = .ok (.iaload, 1) := by decide +kernel
theorem dX1_readNumber_38 : decode cX1_readNumber 38 = .ok (.iadd, 1) := by decide +kernel
theorem dX1_readNumber_39 : decode cX1_readNumber 39 = .ok (.bipush 48, 2) := by decide +kernel
theorem dX1_readNumber_41 : decode cX1_readNumber 41 = .ok (.isub, 1) := by decide +kernel
theorem dX1_readNumber_42 : decode cX1_readNumber 42 = .ok (.istore 4, 2) := by decide +kernel
theorem dX1_readNumber_44 : decode cX1_readNumber 44 = .ok (.iinc 5 1, 3) := by decide +kernel
theorem dX1_readNumber_47 : decode cX1_readNumber 47 = .ok (.goto (-38), 3) := by decide +kernel
theorem dX1_readNumber_50 : decode cX1_readNumber 50 = .ok (.aload_n 0, 1) := by decide +kernel
theorem dX1_readNumber_51 : decode cX1_readNumber 51 = .ok (.getfield 49, 3) := by decide +kernel
theorem dX1_readNumber_54 : decode cX1_readNumber 54 = .ok (.iconst 1, 1) := by decide +kernel
theorem dX1_readNumber_55 : decode cX1_readNumber 55 = .ok (.if_icmp .eq 15, 3) := by decide +kernel
theorem dX1_readNumber_58 : decode cX1_readNumber 58 = .ok (.aload_n 0, 1) := by decide +kernel
theorem dX1_readNumber_59 : decode cX1_readNumber 59 = .ok (.iconst 1, 1) := by decide +kernel
theorem dX1_readNumber_60 : decode cX1_readNumber 60 = .ok (.aload_n 0, 1) := by decide +kernel
theorem dX1_readNumber_61 : decode cX1_readNumber 61 = .ok (.getfield 56, 3) := by decide +kernel
theorem dX1_readNumber_64 : decode cX1_readNumber 64 = .ok (.invokevirtual 73, 3) := by decide +kernel
theorem dX1_readNumber_67 : decode cX1_readNumber 67 = .ok (.goto 49, 3) := by decide +kernel
theorem dX1_readNumber_70 : decode cX1_readNumber 70 = .ok (.aload_n 0, 1) := by decide +kernel
theorem dX1_readNumber_71 : decode cX1_readNumber 71 = .ok (.getfield 40, 3) := by decide +kernel
theorem dX1_readNumber_74 : decode cX1_readNumber 74 = .ok (.aload_n 0, 1) := by decide +kernel
theorem dX1_readNumber_75 : decode cX1_readNumber 75 = .ok (.getfield 56, 3) := by decide +kernel
theorem dX1_readNumber_78 : decode cX1_readNumber 78 = .ok (.isub, 1) := by decide +kernel
theorem dX1_readNumber_79 : decode cX1_readNumber 79 = .ok (.iconst 3, 1) := by decide +kernel
theorem dX1_readNumber_80 : decode cX1_readNumber 80 = .ok (.if_icmp .le 15, 3) := by decide +kernel
theorem dX1_readNumber_83 : decode cX1_readNumber 83 = .ok (.aload_n 0, 1) := by decide +kernel
theorem dX1_readNumber_84 : decode cX1_readNumber 84 = .ok (.iconst 2, 1) := by decide +kernel
theorem dX1_readNumber_85 : decode cX1_readNumber 85 = .ok (.aload_n 0, 1) := by decide +kernel
theorem dX1_readNumber_86 : decode cX1_readNumber 86 = .ok (.getfield 56, 3) := by decide +kernel
theorem dX1_readNumber_89 : decode cX1_readNumber 89 = .ok (.invokevirtual 73, 3) := by decide +kernel
theorem dX1_readNumber_92 : decode cX1_readNumber 92 = .ok (.goto 24, 3) := by decide +kernel
theorem dX1_readNumber_95 : decode cX1_readNumber 95 = .ok (.iload 4, 2) := by decide +kernel
theorem dX1_readNumber_97 : decode cX1_readNumber 97 = .ok (.iload_n 1, 1) := by decide +kernel
theorem dX1_readNumber_98 : decode cX1_readNumber 98 = .ok (.if_icmp .lt 9, 3) := by decide +kernel
theorem dX1_readNumber_101 : decode cX1_readNumber 101 = .ok (.iload 4, 2) := by decide +kernel
theorem dX1_readNumber_103 : decode cX1_readNumber 103 = .ok (.iload_n 2, 1) := by decide +kernel
theorem dX1_readNumber_104 : decode cX1_readNumber 104 = .ok (.if_icmp .le 12, 3) := by decide +kernel
theorem dX1_readNumber_107 : decode cX1_readNumber 107 = .ok (.aload_n 0, 1) := by decide +kernel
theorem dX1_readNumber_108 : decode cX1_readNumber 108 = .ok (.iload_n 3, 1) := by decide +kernel
theorem dX1_readNumber_109 : decode cX1_readNumber 109 = .ok (.aload_n 0, 1) := by decide +kernel
theorem dX1_readNumber_110 : decode cX1_readNumber 110 = .ok (.getfield 56, 3) := by decide +kernel
theorem dX1_readNumber_113 : decode cX1_readNumber 113 = .ok (.invokevirtual 73, 3) := by decide +kernel
theorem dX1_readNumber_116 : decode cX1_readNumber 116 = .ok (.aload_n 0, 1) := by decide +kernel
theorem dX1_readNumber_117 : decode cX1_readNumber 117 = .ok (.getfield 34, 3) := by decide +kernel
theorem dX1_readNumber_120 : decode cX1_readNumber 120 = .ok (.ifCond .eq 5, 3) := by decide +kernel
theorem dX1_readNumber_123 : decode cX1_readNumber 123 = .ok (.iload_n 1, 1) := by decide +kernel
theorem dX1_readNumber_124 : decode cX1_readNumber 124 = .ok (.ireturn, 1) := by decide +kernel
theorem dX1_readNumber_125 : decode cX1_readNumber 125 = .ok (.aload_n 0, 1) := by decide +kernel
theorem dX1_readNumber_126 : decode cX1_readNumber 126 = .ok (.invokevirtual 46, 3) := by decide +kernel
theorem dX1_readNumber_129 : decode cX1_readNumber 129 = .ok (.iload 4, 2) := by decide +kernel
theorem dX1_readNumber_131 : decode cX1_readNumber 131 = .ok (.ireturn, 1) := by decide +kernel
theorem dX2_init_0 : decode cX2_init 0 = .ok (.aload_n 0, 1) := by decide +kernel
theorem dX2_init_1 : decode cX2_init 1 = .ok (.invokespecial 3, 3) := by decide +kernel
theorem dX2_init_4 : decode cX2_init 4 = .ok (.aload_n 0, 1) := by decide +kernel
theorem dX2_init_5 : decode cX2_init 5 = .ok (.bipush 18, 2) := by decide +kernel
theorem dX2_init_7 : decode cX2_init 7 = .ok (.newarray .int, 2) := by decide +kernel
theorem dX2_init_9 : decode cX2_init 9 = .ok (.putfield 9, 3) := by decide +kernel
theorem dX2_init_12 : decode cX2_init 12 = .ok (.aload_n 0, 1) := by decide +kernel
theorem dX2_init_13 : decode cX2_init 13 = .ok (.bipush 6, 2) := by decide +kernel
theorem dX2_init_15 : decode cX2_init 15 = .ok (.newarray .int, 2) := by decide +kernel
theorem dX2_init_17 : decode cX2_init 17 = .ok (.putfield 15, 3) := by decide +kernel
theorem dX2_init_20 : decode cX2_init 20 = .ok (.aload_n 0, 1) := by decide +kernel
theorem dX2_init_21 : decode cX2_init 21 = .ok (.bipush 6, 2) := by decide +kernel
theorem dX2_init_23 : decode cX2_init 23 = .ok (.newarray .int, 2) := by decide +kernel
theorem dX2_init_25 : decode cX2_init 25 = .ok (.putfield 18, 3) := by decide +kernel
theorem dX2_init_28 : decode cX2_init 28 = .ok (.return_, 1) := by decide +kernel
theorem dX2_begin_0 : decode cX2_begin 0 = .ok (.aload_n 1, 1) := by decide +kernel
theorem dX2_begin_1 : decode cX2_begin 1 = .ok (.getfield 21, 3) := by decide +kernel
theorem dX2_begin_4 : decode cX2_begin 4 = .ok (.iconst 0, 1) := by decide +kernel
theorem dX2_begin_5 : decode cX2_begin 5 = .ok (.aload_n 0, 1) := by decide +kernel
theorem dX2_begin_6 : decode cX2_begin 6 = .ok (.getfield 9, 3) := by decide +kernel
theorem dX2_begin_9 : decode cX2_begin 9 = .ok (.iconst 0, 1) := by decide +kernel
theorem dX2_begin_10 : decode cX2_begin 10 = .ok (.bipush 18, 2) := by decide +kernel
theorem dX2_begin_12 : decode cX2_begin 12 = .ok (.invokestatic 24, 3) := by decide +kernel
theorem dX2_begin_15 : decode cX2_begin 15 = .ok (.aload_n 0, 1) := by decide +kernel
theorem dX2_begin_16 : decode cX2_begin 16 = .ok (.iconst 0, 1) := by decide +kernel
theorem dX2_begin_17 : decode cX2_begin 17 = .ok (.putfield 30, 3) := by decide +kernel
theorem dX2_begin_20 : decode cX2_begin 20 = .ok (.aload_n 0, 1) := by decide +kernel
theorem dX2_begin_21 : decode cX2_begin 21 = .ok (.iconst 0, 1) := by decide +kernel
theorem dX2_begin_22 : decode cX2_begin 22 = .ok (.putfield 34, 3) := by decide +kernel
theorem dX2_begin_25 : decode cX2_begin 25 = .ok (.aload_n 0, 1) := by decide +kernel
theorem dX2_begin_26 : decode cX2_begin 26 = .ok (.iconst 0, 1) := by decide +kernel
theorem dX2_begin_27 : decode cX2_begin 27 = .ok (.putfield 37, 3) := by decide +kernel
theorem dX2_begin_30 : decode cX2_begin 30 = .ok (.iconst 0, 1) := by decide +kernel
theorem dX2_begin_31 : decode cX2_begin 31 = .ok (.istore_n 2, 1) := by decide +kernel
theorem dX2_begin_32 : decode cX2_begin 32 = .ok (.iload_n 2, 1) := by decide +kernel
theorem dX2_begin_33 : decode cX2_begin 33 = .ok (.bipush 6, 2) := by decide +kernel
theorem dX2_begin_35 : decode cX2_begin 35 = .ok (.if_icmp .ge 23, 3) := by decide +kernel
theorem dX2_begin_38 : decode cX2_begin 38 = .ok (.aload_n 0, 1) := by decide +kernel
theorem dX2_begin_39 : decode cX2_begin 39 = .ok (.getfield 15, 3) := by decide +kernel
theorem dX2_begin_42 : decode cX2_begin 42 = .ok (.iload_n 2, 1) := by decide +kernel
theorem dX2_begin_43 : decode cX2_begin 43 = .ok (.iconst (-1), 1) := by decide +kernel
theorem dX2_begin_44 : decode cX2_begin 44 = .ok (.iastore, 1) := by decide +kernel
theorem dX2_begin_45 : decode cX2_begin 45 = .ok (.aload_n 0, 1) := by decide +kernel
theorem dX2_begin_46 : decode cX2_begin 46 = .ok (.getfield 18, 3) := by decide +kernel
theorem dX2_begin_49 : decode cX2_begin 49 = .ok (.iload_n 2, 1) := by decide +kernel
theorem dX2_begin_50 : decode cX2_begin 50 = .ok (.iconst (-1), 1) := by decide +kernel
theorem dX2_begin_51 : decode cX2_begin 51 = .ok (.iastore, 1) := by decide +kernel
theorem dX2_begin_52 : decode cX2_begin 52 = .ok (.iinc 2 1, 3) := by decide +kernel
theorem dX2_begin_55 : decode cX2_begin 55 = .ok (.goto (-23), 3) := by decide +kernel
theorem dX2_begin_58 : decode cX2_begin 58 = .ok (.return_, 1) := by decide +kernel
theorem dX2_take_0 : decode cX2_take 0 = .ok (.aload_n 1, 1) := by decide +kernel
theorem dX2_take_1 : decode cX2_take 1 = .ok (.getfield 9, 3) := by decide +kernel
theorem dX2_take_4 : decode cX2_take 4 = .ok (.iconst 0, 1) := by decide +kernel
theorem dX2_take_5 : decode cX2_take 5 = .ok (.aload_n 0, 1) := by decide +kernel
theorem dX2_take_6 : decode cX2_take 6 = .ok (.getfield 9, 3) := by decide +kernel
theorem dX2_take_9 : decode cX2_take 9 = .ok (.iconst 0, 1) := by decide +kernel
theorem dX2_take_10 : decode cX2_take 10 = .ok (.bipush 18, 2) := by decide +kernel
theorem dX2_take_12 : decode cX2_take 12 = .ok (.invokestatic 24, 3) := by decide +kernel
theorem dX2_take_15 : decode cX2_take 15 = .ok (.aload_n 1, 1) := by decide +kernel
theorem dX2_take_16 : decode cX2_take 16 = .ok (.getfield 15, 3) := by decide +kernel
theorem dX2_take_19 : decode cX2_take 19 = .ok (.iconst 0, 1) := by decide +kernel
theorem dX2_take_20 : decode cX2_take 20 = .ok (.aload_n 0, 1) := by decide +kernel
theorem dX2_take_21 : decode cX2_take 21 = .ok (.getfield 15, 3) := by decide +kernel
theorem dX2_take_24 : decode cX2_take 24 = .ok (.iconst 0, 1) := by decide +kernel
theorem dX2_take_25 : decode cX2_take 25 = .ok (.bipush 6, 2) := by decide +kernel
end
section
theorem dX2_take_27 : decode cX2_take 27 = .ok (.invokestatic 24, 3) := by decide +kernel
theorem dX2_take_30 : decode cX2_take 30 = .ok (.aload_n 1, 1) := by decide +kernel
theorem dX2_take_31 : decode cX2_take 31 = .ok (.getfield 18, 3) := by decide +kernel
theorem dX2_take_34 : decode cX2_take 34 = .ok (.iconst 0, 1) := by decide +kernel
theorem dX2_take_35 : decode cX2_take 35 = .ok (.aload_n 0, 1) := by decide +kernel
theorem dX2_take_36 : decode cX2_take 36 = .ok (.getfield 18, 3) := by decide +kernel
theorem dX2_take_39 : decode cX2_take 39 = .ok (.iconst 0, 1) := by decide +kernel
theorem dX2_take_40 : decode cX2_take 40 = .ok (.bipush 6, 2) := by decide +kernel
theorem dX2_take_42 : decode cX2_take 42 = .ok (.invokestatic 24, 3) := by decide +kernel
theorem dX2_take_45 : decode cX2_take 45 = .ok (.aload_n 0, 1) := by decide +kernel
theorem dX2_take_46 : decode cX2_take 46 = .ok (.aload_n 1, 1) := by decide +kernel
theorem dX2_take_47 : decode cX2_take 47 = .ok (.getfield 30, 3) := by decide +kernel
theorem dX2_take_50 : decode cX2_take 50 = .ok (.putfield 30, 3) := by decide +kernel
theorem dX2_take_53 : decode cX2_take 53 = .ok (.aload_n 0, 1) := by decide +kernel
theorem dX2_take_54 : decode cX2_take 54 = .ok (.aload_n 1, 1) := by decide +kernel
theorem dX2_take_55 : decode cX2_take 55 = .ok (.getfield 34, 3) := by decide +kernel
theorem dX2_take_58 : decode cX2_take 58 = .ok (.putfield 34, 3) := by decide +kernel
theorem dX2_take_61 : decode cX2_take 61 = .ok (.aload_n 0, 1) := by decide +kernel
theorem dX2_take_62 : decode cX2_take 62 = .ok (.aload_n 1, 1) := by decide +kernel
theorem dX2_take_63 : decode cX2_take 63 = .ok (.getfield 37, 3) := by decide +kernel
theorem dX2_take_66 : decode cX2_take 66 = .ok (.putfield 37, 3) := by decide +kernel
theorem dX2_take_69 : decode cX2_take 69 = .ok (.return_, 1) := by decide +kernel
theorem dX2_isOut_0 : decode cX2_isOut 0 = .ok (.aload_n 0, 1) := by decide +kernel
theorem dX2_isOut_1 : decode cX2_isOut 1 = .ok (.getfield 34, 3) := by decide +kernel
theorem dX2_isOut_4 : decode cX2_isOut 4 = .ok (.iload_n 1, 1) := by decide +kernel
theorem dX2_isOut_5 : decode cX2_isOut 5 = .ok (.iushr, 1) := by decide +kernel
theorem dX2_isOut_6 : decode cX2_isOut 6 = .ok (.iconst 1, 1) := by decide +kernel
theorem dX2_isOut_7 : decode cX2_isOut 7 = .ok (.iand, 1) := by decide +kernel
theorem dX2_isOut_8 : decode cX2_isOut 8 = .ok (.ifCond .eq 7, 3) := by decide +kernel
theorem dX2_isOut_11 : decode cX2_isOut 11 = .ok (.iconst 1, 1) := by decide +kernel
theorem dX2_isOut_12 : decode cX2_isOut 12 = .ok (.goto 4, 3) := by decide +kernel
theorem dX2_isOut_15 : decode cX2_isOut 15 = .ok (.iconst 0, 1) := by decide +kernel
theorem dX2_isOut_16 : decode cX2_isOut 16 = .ok (.ireturn, 1) := by decide +kernel
theorem dX2_apart_0 : decode cX2_apart 0 = .ok (.iconst 0, 1) := by decide +kernel
theorem dX2_apart_1 : decode cX2_apart 1 = .ok (.istore_n 3, 1) := by decide +kernel
theorem dX2_apart_2 : decode cX2_apart 2 = .ok (.iconst 0, 1) := by decide +kernel
theorem dX2_apart_3 : decode cX2_apart 3 = .ok (.istore 4, 2) := by decide +kernel
theorem dX2_apart_5 : decode cX2_apart 5 = .ok (.iload 4, 2) := by decide +kernel
theorem dX2_apart_7 : decode cX2_apart 7 = .ok (.iconst 3, 1) := by decide +kernel
theorem dX2_apart_8 : decode cX2_apart 8 = .ok (.if_icmp .ge 50, 3) := by decide +kernel
theorem dX2_apart_11 : decode cX2_apart 11 = .ok (.aload_n 0, 1) := by decide +kernel
theorem dX2_apart_12 : decode cX2_apart 12 = .ok (.getfield 9, 3) := by decide +kernel
theorem dX2_apart_15 : decode cX2_apart 15 = .ok (.iload_n 1, 1) := by decide +kernel
theorem dX2_apart_16 : decode cX2_apart 16 = .ok (.iconst 3, 1) := by decide +kernel
theorem dX2_apart_17 : decode cX2_apart 17 = .ok (.imul, 1) := by decide +kernel
theorem dX2_apart_18 : decode cX2_apart 18 = .ok (.iload 4, 2) := by decide +kernel
theorem dX2_apart_20 : decode cX2_apart 20 = .ok (.iadd, 1) := by decide +kernel
theorem dX2_apart_21 : decode cX2_apart 21 = .ok (.iaload, 1) := by decide +kernel
theorem dX2_apart_22 : decode cX2_apart 22 = .ok (.aload_n 0, 1) := by decide +kernel
theorem dX2_apart_23 : decode cX2_apart 23 = .ok (.getfield 9, 3) := by decide +kernel
theorem dX2_apart_26 : decode cX2_apart 26 = .ok (.iload_n 2, 1) := by decide +kernel
theorem dX2_apart_27 : decode cX2_apart 27 = .ok (.iconst 3, 1) := by decide +kernel
theorem dX2_apart_28 : decode cX2_apart 28 = .ok (.imul, 1) := by decide +kernel
theorem dX2_apart_29 : decode cX2_apart 29 = .ok (.iload 4, 2) := by decide +kernel
theorem dX2_apart_31 : decode cX2_apart 31 = .ok (.iadd, 1) := by decide +kernel
theorem dX2_apart_32 : decode cX2_apart 32 = .ok (.iaload, 1) := by decide +kernel
theorem dX2_apart_33 : decode cX2_apart 33 = .ok (.isub, 1) := by decide +kernel
theorem dX2_apart_34 : decode cX2_apart 34 = .ok (.istore 5, 2) := by decide +kernel
theorem dX2_apart_36 : decode cX2_apart 36 = .ok (.iload_n 3, 1) := by decide +kernel
theorem dX2_apart_37 : decode cX2_apart 37 = .ok (.iload 5, 2) := by decide +kernel
theorem dX2_apart_39 : decode cX2_apart 39 = .ok (.ifCond .ge 9, 3) := by decide +kernel
theorem dX2_apart_42 : decode cX2_apart 42 = .ok (.iload 5, 2) := by decide +kernel
theorem dX2_apart_44 : decode cX2_apart 44 = .ok (.ineg, 1) := by decide +kernel
theorem dX2_apart_45 : decode cX2_apart 45 = .ok (.goto 5, 3) := by decide +kernel
theorem dX2_apart_48 : decode cX2_apart 48 = .ok (.iload 5, 2) := by decide +kernel
theorem dX2_apart_50 : decode cX2_apart 50 = .ok (.iadd, 1) := by decide +kernel
theorem dX2_apart_51 : decode cX2_apart 51 = .ok (.istore_n 3, 1) := by decide +kernel
theorem dX2_apart_52 : decode cX2_apart 52 = .ok (.iinc 4 1, 3) := by decide +kernel
theorem dX2_apart_55 : decode cX2_apart 55 = .ok (.goto (-50), 3) := by decide +kernel
theorem dX2_apart_58 : decode cX2_apart 58 = .ok (.iload_n 3, 1) := by decide +kernel
theorem dX2_apart_59 : decode cX2_apart 59 = .ok (.iconst 2, 1) := by decide +kernel
theorem dX2_apart_60 : decode cX2_apart 60 = .ok (.idiv, 1) := by decide +kernel
theorem dX2_apart_61 : decode cX2_apart 61 = .ok (.ireturn, 1) := by decide +kernel
theorem dX2_pour_0 : decode cX2_pour 0 = .ok (.aload_n 0, 1) := by decide +kernel
theorem dX2_pour_1 : decode cX2_pour 1 = .ok (.getfield 9, 3) := by decide +kernel
theorem dX2_pour_4 : decode cX2_pour 4 = .ok (.iload_n 1, 1) := by decide +kernel
theorem dX2_pour_5 : decode cX2_pour 5 = .ok (.iconst 3, 1) := by decide +kernel
theorem dX2_pour_6 : decode cX2_pour 6 = .ok (.imul, 1) := by decide +kernel
theorem dX2_pour_7 : decode cX2_pour 7 = .ok (.iload_n 2, 1) := by decide +kernel
theorem dX2_pour_8 : decode cX2_pour 8 = .ok (.iadd, 1) := by decide +kernel
theorem dX2_pour_9 : decode cX2_pour 9 = .ok (.iaload, 1) := by decide +kernel
theorem dX2_pour_10 : decode cX2_pour 10 = .ok (.ifCond .ne 5, 3) := by decide +kernel
theorem dX2_pour_13 : decode cX2_pour 13 = .ok (.iconst 0, 1) := by decide +kernel
theorem dX2_pour_14 : decode cX2_pour 14 = .ok (.ireturn, 1) := by decide +kernel
theorem dX2_pour_15 : decode cX2_pour 15 = .ok (.aload_n 0, 1) := by decide +kernel
theorem dX2_pour_16 : decode cX2_pour 16 = .ok (.getfield 9, 3) := by decide +kernel
theorem dX2_pour_19 : decode cX2_pour 19 = .ok (.iload_n 1, 1) := by decide +kernel
theorem dX2_pour_20 : decode cX2_pour 20 = .ok (.iconst 3, 1) := by decide +kernel
theorem dX2_pour_21 : decode cX2_pour 21 = .ok (.imul, 1) := by decide +kernel
theorem dX2_pour_22 : decode cX2_pour 22 = .ok (.iload_n 2, 1) := by decide +kernel
theorem dX2_pour_23 : decode cX2_pour 23 = .ok (.iadd, 1) := by decide +kernel
theorem dX2_pour_24 : decode cX2_pour 24 = .ok (.dup2, 1) := by decide +kernel
theorem dX2_pour_25 : decode cX2_pour 25 = .ok (.iaload, 1) := by decide +kernel
theorem dX2_pour_26 : decode cX2_pour 26 = .ok (.iconst 1, 1) := by decide +kernel
theorem dX2_pour_27 : decode cX2_pour 27 = .ok (.isub, 1) := by decide +kernel
theorem dX2_pour_28 : decode cX2_pour 28 = .ok (.iastore, 1) := by decide +kernel
theorem dX2_pour_29 : decode cX2_pour 29 = .ok (.aload_n 0, 1) := by decide +kernel
theorem dX2_pour_30 : decode cX2_pour 30 = .ok (.getfield 9, 3) := by decide +kernel
theorem dX2_pour_33 : decode cX2_pour 33 = .ok (.iload_n 1, 1) := by decide +kernel
theorem dX2_pour_34 : decode cX2_pour 34 = .ok (.iconst 3, 1) := by decide +kernel
theorem dX2_pour_35 : decode cX2_pour 35 = .ok (.imul, 1) := by decide +kernel
theorem dX2_pour_36 : decode cX2_pour 36 = .ok (.iload_n 3, 1) := by decide +kernel
theorem dX2_pour_37 : decode cX2_pour 37 = .ok (.iadd, 1) := by decide +kernel
theorem dX2_pour_38 : decode cX2_pour 38 = .ok (.dup2, 1) := by decide +kernel
theorem dX2_pour_39 : decode cX2_pour 39 = .ok (.iaload, 1) := by decide +kernel
theorem dX2_pour_40 : decode cX2_pour 40 = .ok (.iconst 1, 1) := by decide +kernel
theorem dX2_pour_41 : decode cX2_pour 41 = .ok (.iadd, 1) := by decide +kernel
theorem dX2_pour_42 : decode cX2_pour 42 = .ok (.iastore, 1) := by decide +kernel
theorem dX2_pour_43 : decode cX2_pour 43 = .ok (.iconst 1, 1) := by decide +kernel
theorem dX2_pour_44 : decode cX2_pour 44 = .ok (.ireturn, 1) := by decide +kernel
theorem dX2_marryAll_0 : decode cX2_marryAll 0 = .ok (.iconst 0, 1) := by decide +kernel
theorem dX2_marryAll_1 : decode cX2_marryAll 1 = .ok (.istore_n 2, 1) := by decide +kernel
theorem dX2_marryAll_2 : decode cX2_marryAll 2 = .ok (.iload_n 2, 1) := by decide +kernel
theorem dX2_marryAll_3 : decode cX2_marryAll 3 = .ok (.aload_n 1, 1) := by decide +kernel
theorem dX2_marryAll_4 : decode cX2_marryAll 4 = .ok (.getfield 40, 3) := by decide +kernel
theorem dX2_marryAll_7 : decode cX2_marryAll 7 = .ok (.if_icmp .ge 77, 3) := by decide +kernel
theorem dX2_marryAll_10 : decode cX2_marryAll 10 = .ok (.iload_n 2, 1) := by decide +kernel
theorem dX2_marryAll_11 : decode cX2_marryAll 11 = .ok (.iconst 1, 1) := by decide +kernel
theorem dX2_marryAll_12 : decode cX2_marryAll 12 = .ok (.iadd, 1) := by decide +kernel
theorem dX2_marryAll_13 : decode cX2_marryAll 13 = .ok (.istore_n 3, 1) := by decide +kernel
theorem dX2_marryAll_14 : decode cX2_marryAll 14 = .ok (.iload_n 3, 1) := by decide +kernel
theorem dX2_marryAll_15 : decode cX2_marryAll 15 = .ok (.aload_n 1, 1) := by decide +kernel
theorem dX2_marryAll_16 : decode cX2_marryAll 16 = .ok (.getfield 40, 3) := by decide +kernel
theorem dX2_marryAll_19 : decode cX2_marryAll 19 = .ok (.if_icmp .ge 59, 3) := by decide +kernel
theorem dX2_marryAll_22 : decode cX2_marryAll 22 = .ok (.aload_n 0, 1) := by decide +kernel
theorem dX2_marryAll_23 : decode cX2_marryAll 23 = .ok (.iload_n 2, 1) := by decide +kernel
theorem dX2_marryAll_24 : decode cX2_marryAll 24 = .ok (.invokevirtual 43, 3) := by decide +kernel
theorem dX2_marryAll_27 : decode cX2_marryAll 27 = .ok (.ifCond .ne 51, 3) := by decide +kernel
theorem dX2_marryAll_30 : decode cX2_marryAll 30 = .ok (.aload_n 0, 1) := by decide +kernel
theorem dX2_marryAll_31 : decode cX2_marryAll 31 = .ok (.iload_n 3, 1) := by decide +kernel
theorem dX2_marryAll_32 : decode cX2_marryAll 32 = .ok (.invokevirtual 43, 3) := by decide +kernel
theorem dX2_marryAll_35 : decode cX2_marryAll 35 = .ok (.ifCond .ne 37, 3) := by decide +kernel
theorem dX2_marryAll_38 : decode cX2_marryAll 38 = .ok (.aload_n 1, 1) := by decide +kernel
theorem dX2_marryAll_39 : decode cX2_marryAll 39 = .ok (.getfield 47, 3) := by decide +kernel
theorem dX2_marryAll_42 : decode cX2_marryAll 42 = .ok (.iload_n 3, 1) := by decide +kernel
theorem dX2_marryAll_43 : decode cX2_marryAll 43 = .ok (.iaload, 1) := by decide +kernel
theorem dX2_marryAll_44 : decode cX2_marryAll 44 = .ok (.aload_n 1, 1) := by decide +kernel
theorem dX2_marryAll_45 : decode cX2_marryAll 45 = .ok (.getfield 47, 3) := by decide +kernel
theorem dX2_marryAll_48 : decode cX2_marryAll 48 = .ok (.iload_n 2, 1) := by decide +kernel
theorem dX2_marryAll_49 : decode cX2_marryAll 49 = .ok (.iaload, 1) := by decide +kernel
theorem dX2_marryAll_50 : decode cX2_marryAll 50 = .ok (.if_icmp .eq 22, 3) := by decide +kernel
theorem dX2_marryAll_53 : decode cX2_marryAll 53 = .ok (.aload_n 0, 1) := by decide +kernel
theorem dX2_marryAll_54 : decode cX2_marryAll 54 = .ok (.iload_n 2, 1) := by decide +kernel
theorem dX2_marryAll_55 : decode cX2_marryAll 55 = .ok (.iload_n 3, 1) := by decide +kernel
theorem dX2_marryAll_56 : decode cX2_marryAll 56 = .ok (.invokevirtual 50, 3) := by decide +kernel
theorem dX2_marryAll_59 : decode cX2_marryAll 59 = .ok (.aload_n 1, 1) := by decide +kernel
theorem dX2_marryAll_60 : decode cX2_marryAll 60 = .ok (.getfield 54, 3) := by decide +kernel
theorem dX2_marryAll_63 : decode cX2_marryAll 63 = .ok (.if_icmp .gt 9, 3) := by decide +kernel
theorem dX2_marryAll_66 : decode cX2_marryAll 66 = .ok (.aload_n 0, 1) := by decide +kernel
theorem dX2_marryAll_67 : decode cX2_marryAll 67 = .ok (.iload_n 2, 1) := by decide +kernel
theorem dX2_marryAll_68 : decode cX2_marryAll 68 = .ok (.iload_n 3, 1) := by decide +kernel
theorem dX2_marryAll_69 : decode cX2_marryAll 69 = .ok (.invokevirtual 57, 3) := by decide +kernel
theorem dX2_marryAll_72 : decode cX2_marryAll 72 = .ok (.iinc 3 1, 3) := by decide +kernel
theorem dX2_marryAll_75 : decode cX2_marryAll 75 = .ok (.goto (-61), 3) := by decide +kernel
theorem dX2_marryAll_78 : decode cX2_marryAll 78 = .ok (.iinc 2 1, 3) := by decide +kernel
theorem dX2_marryAll_81 : decode cX2_marryAll 81 = .ok (.goto (-79), 3) := by decide +kernel
theorem dX2_marryAll_84 : decode cX2_marryAll 84 = .ok (.return_, 1) := by decide +kernel
theorem dX2_marry_0 : decode cX2_marry 0 = .ok (.aload_n 0, 1) := by decide +kernel
theorem dX2_marry_1 : decode cX2_marry 1 = .ok (.getfield 15, 3) := by decide +kernel
theorem dX2_marry_4 : decode cX2_marry 4 = .ok (.iload_n 1, 1) := by decide +kernel
theorem dX2_marry_5 : decode cX2_marry 5 = .ok (.iload_n 2, 1) := by decide +kernel
theorem dX2_marry_6 : decode cX2_marry 6 = .ok (.iastore, 1) := by decide +kernel
theorem dX2_marry_7 : decode cX2_marry 7 = .ok (.aload_n 0, 1) := by decide +kernel
theorem dX2_marry_8 : decode cX2_marry 8 = .ok (.getfield 15, 3) := by decide +kernel
theorem dX2_marry_11 : decode cX2_marry 11 = .ok (.iload_n 2, 1) := by decide +kernel
theorem dX2_marry_12 : decode cX2_marry 12 = .ok (.iload_n 1, 1) := by decide +kernel
theorem dX2_marry_13 : decode cX2_marry 13 = .ok (.iastore, 1) := by decide +kernel
theorem dX2_marry_14 : decode cX2_marry 14 = .ok (.aload_n 0, 1) := by decide +kernel
theorem dX2_marry_15 : decode cX2_marry 15 = .ok (.getfield 18, 3) := by decide +kernel
theorem dX2_marry_18 : decode cX2_marry 18 = .ok (.iload_n 1, 1) := by decide +kernel
theorem dX2_marry_19 : decode cX2_marry 19 = .ok (.aload_n 0, 1) := by decide +kernel
theorem dX2_marry_20 : decode cX2_marry 20 = .ok (.getfield 30, 3) := by decide +kernel
theorem dX2_marry_23 : decode cX2_marry 23 = .ok (.iastore, 1) := by decide +kernel
theorem dX2_marry_24 : decode cX2_marry 24 = .ok (.aload_n 0, 1) := by decide +kernel
theorem dX2_marry_25 : decode cX2_marry 25 = .ok (.getfield 18, 3) := by decide +kernel
theorem dX2_marry_28 : decode cX2_marry 28 = .ok (.iload_n 2, 1) := by decide +kernel
theorem dX2_marry_29 : decode cX2_marry 29 = .ok (.aload_n 0, 1) := by decide +kernel
theorem dX2_marry_30 : decode cX2_marry 30 = .ok (.getfield 30, 3) := by decide +kernel
theorem dX2_marry_33 : decode cX2_marry 33 = .ok (.iastore, 1) := by decide +kernel
theorem dX2_marry_34 : decode cX2_marry 34 = .ok (.aload_n 0, 1) := by decide +kernel
theorem dX2_marry_35 : decode cX2_marry 35 = .ok (.dup, 1) := by decide +kernel
theorem dX2_marry_36 : decode cX2_marry 36 = .ok (.getfield 34, 3) := by decide +kernel
theorem dX2_marry_39 : decode cX2_marry 39 = .ok (.iconst 1, 1) := by decide +kernel
theorem dX2_marry_40 : decode cX2_marry 40 = .ok (.iload_n 1, 1) := by decide +kernel
theorem dX2_marry_41 : decode cX2_marry 41 = .ok (.ishl, 1) := by decide +kernel
theorem dX2_marry_42 : decode cX2_marry 42 = .ok (.iconst 1, 1) := by decide +kernel
theorem dX2_marry_43 : decode cX2_marry 43 = .ok (.iload_n 2, 1) := by decide +kernel
theorem dX2_marry_44 : decode cX2_marry 44 = .ok (.ishl, 1) := by decide +kernel
theorem dX2_marry_45 : decode cX2_marry 45 = .ok (.ior, 1) := by decide +kernel
theorem dX2_marry_46 : decode cX2_marry 46 = .ok (.ior, 1) := by decide +kernel
theorem dX2_marry_47 : decode cX2_marry 47 = .ok (.putfield 34, 3) := by decide +kernel
theorem dX2_marry_50 : decode cX2_marry 50 = .ok (.aload_n 0, 1) := by decide +kernel
theorem dX2_marry_51 : decode cX2_marry 51 = .ok (.dup, 1) := by decide +kernel
theorem dX2_marry_52 : decode cX2_marry 52 = .ok (.getfield 37, 3) := by decide +kernel
theorem dX2_marry_55 : decode cX2_marry 55 = .ok (.iconst 1, 1) := by decide +kernel
theorem dX2_marry_56 : decode cX2_marry 56 = .ok (.iadd, 1) := by decide +kernel
theorem dX2_marry_57 : decode cX2_marry 57 = .ok (.putfield 37, 3) := by decide +kernel
theorem dX2_marry_60 : decode cX2_marry 60 = .ok (.return_, 1) := by decide +kernel
theorem dX2_partSince_0 : decode cX2_partSince 0 = .ok (.iconst 0, 1) := by decide +kernel
theorem dX2_partSince_1 : decode cX2_partSince 1 = .ok (.istore_n 2, 1) := by decide +kernel
theorem dX2_partSince_2 : decode cX2_partSince 2 = .ok (.iload_n 2, 1) := by decide +kernel
theorem dX2_partSince_3 : decode cX2_partSince 3 = .ok (.bipush 6, 2) := by decide +kernel
theorem dX2_partSince_5 : decode cX2_partSince 5 = .ok (.if_icmp .ge 47, 3) := by decide +kernel
theorem dX2_partSince_8 : decode cX2_partSince 8 = .ok (.aload_n 0, 1) := by decide +kernel
theorem dX2_partSince_9 : decode cX2_partSince 9 = .ok (.getfield 18, 3) := by decide +kernel
theorem dX2_partSince_12 : decode cX2_partSince 12 = .ok (.iload_n 2, 1) := by decide +kernel
theorem dX2_partSince_13 : decode cX2_partSince 13 = .ok (.iaload, 1) := by decide +kernel
theorem dX2_partSince_14 : decode cX2_partSince 14 = .ok (.iload_n 1, 1) := by decide +kernel
theorem dX2_partSince_15 : decode cX2_partSince 15 = .ok (.if_icmp .lt 31, 3) := by decide +kernel
theorem dX2_partSince_18 : decode cX2_partSince 18 = .ok (.aload_n 0, 1) := by decide +kernel
theorem dX2_partSince_19 : decode cX2_partSince 19 = .ok (.getfield 15, 3) := by decide +kernel
theorem dX2_partSince_22 : decode cX2_partSince 22 = .ok (.iload_n 2, 1) := by decide +kernel
theorem dX2_partSince_23 : decode cX2_partSince 23 = .ok (.iconst (-1), 1) := by decide +kernel
theorem dX2_partSince_24 : decode cX2_partSince 24 = .ok (.iastore, 1) := by decide +kernel
theorem dX2_partSince_25 : decode cX2_partSince 25 = .ok (.aload_n 0, 1) := by decide +kernel
theorem dX2_partSince_26 : decode cX2_partSince 26 = .ok (.getfield 18, 3) := by decide +kernel
theorem dX2_partSince_29 : decode cX2_partSince 29 = .ok (.iload_n 2, 1) := by decide +kernel
theorem dX2_partSince_30 : decode cX2_partSince 30 = .ok (.iconst (-1), 1) := by decide +kernel
theorem dX2_partSince_31 : decode cX2_partSince 31 = .ok (.iastore, 1) := by decide +kernel
theorem dX2_partSince_32 : decode cX2_partSince 32 = .ok (.aload_n 0, 1) := by decide +kernel
theorem dX2_partSince_33 : decode cX2_partSince 33 = .ok (.dup, 1) := by decide +kernel
theorem dX2_partSince_34 : decode cX2_partSince 34 = .ok (.getfield 34, 3) := by decide +kernel
theorem dX2_partSince_37 : decode cX2_partSince 37 = .ok (.iconst 1, 1) := by decide +kernel
theorem dX2_partSince_38 : decode cX2_partSince 38 = .ok (.iload_n 2, 1) := by decide +kernel
theorem dX2_partSince_39 : decode cX2_partSince 39 = .ok (.ishl, 1) := by decide +kernel
theorem dX2_partSince_40 : decode cX2_partSince 40 = .ok (.iconst (-1), 1) := by decide +kernel
theorem dX2_partSince_41 : decode cX2_partSince 41 = .ok (.ixor, 1) := by decide +kernel
theorem dX2_partSince_42 : decode cX2_partSince 42 = .ok (.iand, 1) := by decide +kernel
theorem dX2_partSince_43 : decode cX2_partSince 43 = .ok (.putfield 34, 3) := by decide +kernel
theorem dX2_partSince_46 : decode cX2_partSince 46 = .ok (.iinc 2 1, 3) := by decide +kernel
theorem dX2_partSince_49 : decode cX2_partSince 49 = .ok (.goto (-47), 3) := by decide +kernel
theorem dX2_partSince_52 : decode cX2_partSince 52 = .ok (.aload_n 0, 1) := by decide +kernel
theorem dX2_partSince_53 : decode cX2_partSince 53 = .ok (.aload_n 0, 1) := by decide +kernel
theorem dX2_partSince_54 : decode cX2_partSince 54 = .ok (.getfield 34, 3) := by decide +kernel
theorem dX2_partSince_57 : decode cX2_partSince 57 = .ok (.invokestatic 61, 3) := by decide +kernel
theorem dX2_partSince_60 : decode cX2_partSince 60 = .ok (.iconst 2, 1) := by decide +kernel
theorem dX2_partSince_61 : decode cX2_partSince 61 = .ok (.idiv, 1) := by decide +kernel
theorem dX2_partSince_62 : decode cX2_partSince 62 = .ok (.putfield 37, 3) := by decide +kernel
theorem dX2_partSince_65 : decode cX2_partSince 65 = .ok (.aload_n 0, 1) := by decide +kernel
theorem dX2_partSince_66 : decode cX2_partSince 66 = .ok (.iload_n 1, 1) := by decide +kernel
theorem dX2_partSince_67 : decode cX2_partSince 67 = .ok (.putfield 30, 3) := by decide +kernel
theorem dX2_partSince_70 : decode cX2_partSince 70 = .ok (.return_, 1) := by decide +kernel
theorem dX2_packColours_0 : decode cX2_packColours 0 = .ok (.lconst 0, 1) := by decide +kernel
theorem dX2_packColours_1 : decode cX2_packColours 1 = .ok (.lstore_n 1, 1) := by decide +kernel
theorem dX2_packColours_2 : decode cX2_packColours 2 = .ok (.iconst 0, 1) := by decide +kernel
theorem dX2_packColours_3 : decode cX2_packColours 3 = .ok (.istore_n 3, 1) := by decide +kernel
theorem dX2_packColours_4 : decode cX2_packColours 4 = .ok (.iload_n 3, 1) := by decide +kernel
theorem dX2_packColours_5 : decode cX2_packColours 5 = .ok (.bipush 6, 2) := by decide +kernel
theorem dX2_packColours_7 : decode cX2_packColours 7 = .ok (.if_icmp .ge 38, 3) := by decide +kernel
theorem dX2_packColours_10 : decode cX2_packColours 10 = .ok (.lload_n 1, 1) := by decide +kernel
theorem dX2_packColours_11 : decode cX2_packColours 11 = .ok (.bipush 10, 2) := by decide +kernel
theorem dX2_packColours_13 : decode cX2_packColours 13 = .ok (.lshl, 1) := by decide +kernel
theorem dX2_packColours_14 : decode cX2_packColours 14 = .ok (.aload_n 0, 1) := by decide +kernel
theorem dX2_packColours_15 : decode cX2_packColours 15 = .ok (.getfield 9, 3) := by decide +kernel
theorem dX2_packColours_18 : decode cX2_packColours 18 = .ok (.iload_n 3, 1) := by decide +kernel
theorem dX2_packColours_19 : decode cX2_packColours 19 = .ok (.iconst 3, 1) := by decide +kernel
theorem dX2_packColours_20 : decode cX2_packColours 20 = .ok (.imul, 1) := by decide +kernel
theorem dX2_packColours_21 : decode cX2_packColours 21 = .ok (.iaload, 1) := by decide +kernel
theorem dX2_packColours_22 : decode cX2_packColours 22 = .ok (.iconst 5, 1) := by decide +kernel
theorem dX2_packColours_23 : decode cX2_packColours 23 = .ok (.ishl, 1) := by decide +kernel
theorem dX2_packColours_24 : decode cX2_packColours 24 = .ok (.i2l, 1) := by decide +kernel
theorem dX2_packColours_25 : decode cX2_packColours 25 = .ok (.lor, 1) := by decide +kernel
theorem dX2_packColours_26 : decode cX2_packColours 26 = .ok (.aload_n 0, 1) := by decide +kernel
theorem dX2_packColours_27 : decode cX2_packColours 27 = .ok (.getfield 9, 3) := by decide +kernel
theorem dX2_packColours_30 : decode cX2_packColours 30 = .ok (.iload_n 3, 1) := by decide +kernel
theorem dX2_packColours_31 : decode cX2_packColours 31 = .ok (.iconst 3, 1) := by decide +kernel
theorem dX2_packColours_32 : decode cX2_packColours 32 = .ok (.imul, 1) := by decide +kernel
theorem dX2_packColours_33 : decode cX2_packColours 33 = .ok (.iconst 1, 1) := by decide +kernel
theorem dX2_packColours_34 : decode cX2_packColours 34 = .ok (.iadd, 1) := by decide +kernel
theorem dX2_packColours_35 : decode cX2_packColours 35 = .ok (.iaload, 1) := by decide +kernel
theorem dX2_packColours_36 : decode cX2_packColours 36 = .ok (.i2l, 1) := by decide +kernel
theorem dX2_packColours_37 : decode cX2_packColours 37 = .ok (.lor, 1) := by decide +kernel
theorem dX2_packColours_38 : decode cX2_packColours 38 = .ok (.lstore_n 1, 1) := by decide +kernel
theorem dX2_packColours_39 : decode cX2_packColours 39 = .ok (.iinc 3 1, 3) := by decide +kernel
theorem dX2_packColours_42 : decode cX2_packColours 42 = .ok (.goto (-38), 3) := by decide +kernel
theorem dX2_packColours_45 : decode cX2_packColours 45 = .ok (.lload_n 1, 1) := by decide +kernel
theorem dX2_packColours_46 : decode cX2_packColours 46 = .ok (.lreturn, 1) := by decide +kernel
theorem dX3_init_0 : decode cX3_init 0 = .ok (.aload_n 0, 1) := by decide +kernel
theorem dX3_init_1 : decode cX3_init 1 = .ok (.invokespecial 3, 3) := by decide +kernel
theorem dX3_init_4 : decode cX3_init 4 = .ok (.aload_n 0, 1) := by decide +kernel
theorem dX3_init_5 : decode cX3_init 5 = .ok (.new 9, 3) := by decide +kernel
theorem dX3_init_8 : decode cX3_init 8 = .ok (.dup, 1) := by decide +kernel
theorem dX3_init_9 : decode cX3_init 9 = .ok (.invokespecial 11, 3) := by decide +kernel
theorem dX3_init_12 : decode cX3_init 12 = .ok (.putfield 12, 3) := by decide +kernel
theorem dX3_init_15 : decode cX3_init 15 = .ok (.aload_n 0, 1) := by decide +kernel
theorem dX3_init_16 : decode cX3_init 16 = .ok (.sipush 1782, 3) := by decide +kernel
theorem dX3_init_19 : decode cX3_init 19 = .ok (.newarray .int, 2) := by decide +kernel
theorem dX3_init_21 : decode cX3_init 21 = .ok (.putfield 18, 3) := by decide +kernel
theorem dX3_init_24 : decode cX3_init 24 = .ok (.aload_n 0, 1) := by decide +kernel
theorem dX3_init_25 : decode cX3_init 25 = .ok (.sipush 1800, 3) := by decide +kernel
theorem dX3_init_28 : decode cX3_init 28 = .ok (.newarray .int, 2) := by decide +kernel
theorem dX3_init_30 : decode cX3_init 30 = .ok (.putfield 22, 3) := by decide +kernel
theorem dX3_init_33 : decode cX3_init 33 = .ok (.aload_n 0, 1) := by decide +kernel
theorem dX3_init_34 : decode cX3_init 34 = .ok (.iconst 3, 1) := by decide +kernel
theorem dX3_init_35 : decode cX3_init 35 = .ok (.newarray .int, 2) := by decide +kernel
theorem dX3_init_37 : decode cX3_init 37 = .ok (.putfield 25, 3) := by decide +kernel
theorem dX3_init_40 : decode cX3_init 40 = .ok (.return_, 1) := by decide +kernel
theorem dX3_begin_0 : decode cX3_begin 0 = .ok (.aload_n 0, 1) := by decide +kernel
theorem dX3_begin_1 : decode cX3_begin 1 = .ok (.getfield 12, 3) := by decide +kernel
theorem dX3_begin_4 : decode cX3_begin 4 = .ok (.aload_n 1, 1) := by decide +kernel
theorem dX3_begin_5 : decode cX3_begin 5 = .ok (.invokevirtual 28, 3) := by decide +kernel
theorem dX3_begin_8 : decode cX3_begin 8 = .ok (.aload_n 0, 1) := by decide +kernel
theorem dX3_begin_9 : decode cX3_begin 9 = .ok (.getfield 12, 3) := by decide +kernel
theorem dX3_begin_12 : decode cX3_begin 12 = .ok (.getfield 32, 3) := by decide +kernel
theorem dX3_begin_15 : decode cX3_begin 15 = .ok (.iconst 0, 1) := by decide +kernel
theorem dX3_begin_16 : decode cX3_begin 16 = .ok (.aload_n 0, 1) := by decide +kernel
theorem dX3_begin_17 : decode cX3_begin 17 = .ok (.getfield 22, 3) := by decide +kernel
theorem dX3_begin_20 : decode cX3_begin 20 = .ok (.iconst 0, 1) := by decide +kernel
theorem dX3_begin_21 : decode cX3_begin 21 = .ok (.bipush 18, 2) := by decide +kernel
theorem dX3_begin_23 : decode cX3_begin 23 = .ok (.invokestatic 35, 3) := by decide +kernel
theorem dX3_begin_26 : decode cX3_begin 26 = .ok (.return_, 1) := by decide +kernel
theorem dX3_take_0 : decode cX3_take 0 = .ok (.aload_n 0, 1) := by decide +kernel
theorem dX3_take_1 : decode cX3_take 1 = .ok (.getfield 12, 3) := by decide +kernel
theorem dX3_take_4 : decode cX3_take 4 = .ok (.aload_n 1, 1) := by decide +kernel
theorem dX3_take_5 : decode cX3_take 5 = .ok (.getfield 12, 3) := by decide +kernel
theorem dX3_take_8 : decode cX3_take 8 = .ok (.invokevirtual 41, 3) := by decide +kernel
theorem dX3_take_11 : decode cX3_take 11 = .ok (.aload_n 1, 1) := by decide +kernel
theorem dX3_take_12 : decode cX3_take 12 = .ok (.getfield 18, 3) := by decide +kernel
theorem dX3_take_15 : decode cX3_take 15 = .ok (.iconst 0, 1) := by decide +kernel
theorem dX3_take_16 : decode cX3_take 16 = .ok (.aload_n 0, 1) := by decide +kernel
theorem dX3_take_17 : decode cX3_take 17 = .ok (.getfield 18, 3) := by decide +kernel
theorem dX3_take_20 : decode cX3_take 20 = .ok (.iconst 0, 1) := by decide +kernel
theorem dX3_take_21 : decode cX3_take 21 = .ok (.aload_n 0, 1) := by decide +kernel
theorem dX3_take_22 : decode cX3_take 22 = .ok (.getfield 18, 3) := by decide +kernel
theorem dX3_take_25 : decode cX3_take 25 = .ok (.arraylength, 1) := by decide +kernel
theorem dX3_take_26 : decode cX3_take 26 = .ok (.invokestatic 35, 3) := by decide +kernel
theorem dX3_take_29 : decode cX3_take 29 = .ok (.aload_n 1, 1) := by decide +kernel
theorem dX3_take_30 : decode cX3_take 30 = .ok (.getfield 22, 3) := by decide +kernel
theorem dX3_take_33 : decode cX3_take 33 = .ok (.iconst 0, 1) := by decide +kernel
theorem dX3_take_34 : decode cX3_take 34 = .ok (.aload_n 0, 1) := by decide +kernel
theorem dX3_take_35 : decode cX3_take 35 = .ok (.getfield 22, 3) := by decide +kernel
theorem dX3_take_38 : decode cX3_take 38 = .ok (.iconst 0, 1) := by decide +kernel
theorem dX3_take_39 : decode cX3_take 39 = .ok (.aload_n 0, 1) := by decide +kernel
theorem dX3_take_40 : decode cX3_take 40 = .ok (.getfield 22, 3) := by decide +kernel
theorem dX3_take_43 : decode cX3_take 43 = .ok (.arraylength, 1) := by decide +kernel
theorem dX3_take_44 : decode cX3_take 44 = .ok (.invokestatic 35, 3) := by decide +kernel
theorem dX3_take_47 : decode cX3_take 47 = .ok (.aload_n 1, 1) := by decide +kernel
theorem dX3_take_48 : decode cX3_take 48 = .ok (.getfield 25, 3) := by decide +kernel
theorem dX3_take_51 : decode cX3_take 51 = .ok (.iconst 0, 1) := by decide +kernel
theorem dX3_take_52 : decode cX3_take 52 = .ok (.aload_n 0, 1) := by decide +kernel
theorem dX3_take_53 : decode cX3_take 53 = .ok (.getfield 25, 3) := by decide +kernel
theorem dX3_take_56 : decode cX3_take 56 = .ok (.iconst 0, 1) := by decide +kernel
theorem dX3_take_57 : decode cX3_take 57 = .ok (.iconst 3, 1) := by decide +kernel
theorem dX3_take_58 : decode cX3_take 58 = .ok (.invokestatic 35, 3) := by decide +kernel
theorem dX3_take_61 : decode cX3_take 61 = .ok (.return_, 1) := by decide +kernel
theorem dX3_writeDusk_0 : decode cX3_writeDusk 0 = .ok (.aload_n 0, 1) := by decide +kernel
theorem dX3_writeDusk_1 : decode cX3_writeDusk 1 = .ok (.getfield 12, 3) := by decide +kernel
theorem dX3_writeDusk_4 : decode cX3_writeDusk 4 = .ok (.getfield 45, 3) := by decide +kernel
theorem dX3_writeDusk_7 : decode cX3_writeDusk 7 = .ok (.bipush 99, 2) := by decide +kernel
theorem dX3_writeDusk_9 : decode cX3_writeDusk 9 = .ok (.if_icmp .ge 30, 3) := by decide +kernel
theorem dX3_writeDusk_12 : decode cX3_writeDusk 12 = .ok (.aload_n 0, 1) := by decide +kernel
theorem dX3_writeDusk_13 : decode cX3_writeDusk 13 = .ok (.getfield 12, 3) := by decide +kernel
theorem dX3_writeDusk_16 : decode cX3_writeDusk 16 = .ok (.getfield 32, 3) := by decide +kernel
theorem dX3_writeDusk_19 : decode cX3_writeDusk 19 = .ok (.iconst 0, 1) := by decide +kernel
theorem dX3_writeDusk_20 : decode cX3_writeDusk 20 = .ok (.aload_n 0, 1) := by decide +kernel
theorem dX3_writeDusk_21 : decode cX3_writeDusk 21 = .ok (.getfield 18, 3) := by decide +kernel
theorem dX3_writeDusk_24 : decode cX3_writeDusk 24 = .ok (.aload_n 0, 1) := by decide +kernel
theorem dX3_writeDusk_25 : decode cX3_writeDusk 25 = .ok (.getfield 12, 3) := by decide +kernel
theorem dX3_writeDusk_28 : decode cX3_writeDusk 28 = .ok (.getfield 45, 3) := by decide +kernel
theorem dX3_writeDusk_31 : decode cX3_writeDusk 31 = .ok (.bipush 18, 2) := by decide +kernel
theorem dX3_writeDusk_33 : decode cX3_writeDusk 33 = .ok (.imul, 1) := by decide +kernel
theorem dX3_writeDusk_34 : decode cX3_writeDusk 34 = .ok (.bipush 18, 2) := by decide +kernel
theorem dX3_writeDusk_36 : decode cX3_writeDusk 36 = .ok (.invokestatic 35, 3) := by decide +kernel
theorem dX3_writeDusk_39 : decode cX3_writeDusk 39 = .ok (.return_, 1) := by decide +kernel
theorem dX3_writeDawn_0 : decode cX3_writeDawn 0 = .ok (.aload_n 0, 1) := by decide +kernel
theorem dX3_writeDawn_1 : decode cX3_writeDawn 1 = .ok (.getfield 12, 3) := by decide +kernel
theorem dX3_writeDawn_4 : decode cX3_writeDawn 4 = .ok (.getfield 45, 3) := by decide +kernel
theorem dX3_writeDawn_7 : decode cX3_writeDawn 7 = .ok (.bipush 99, 2) := by decide +kernel
theorem dX3_writeDawn_9 : decode cX3_writeDawn 9 = .ok (.if_icmp .gt 30, 3) := by decide +kernel
theorem dX3_writeDawn_12 : decode cX3_writeDawn 12 = .ok (.aload_n 0, 1) := by decide +kernel
theorem dX3_writeDawn_13 : decode cX3_writeDawn 13 = .ok (.getfield 12, 3) := by decide +kernel
theorem dX3_writeDawn_16 : decode cX3_writeDawn 16 = .ok (.getfield 32, 3) := by decide +kernel
theorem dX3_writeDawn_19 : decode cX3_writeDawn 19 = .ok (.iconst 0, 1) := by decide +kernel
theorem dX3_writeDawn_20 : decode cX3_writeDawn 20 = .ok (.aload_n 0, 1) := by decide +kernel
theorem dX3_writeDawn_21 : decode cX3_writeDawn 21 = .ok (.getfield 22, 3) := by decide +kernel
theorem dX3_writeDawn_24 : decode cX3_writeDawn 24 = .ok (.aload_n 0, 1) := by decide +kernel
theorem dX3_writeDawn_25 : decode cX3_writeDawn 25 = .ok (.getfield 12, 3) := by decide +kernel
theorem dX3_writeDawn_28 : decode cX3_writeDawn 28 = .ok (.getfield 45, 3) := by decide +kernel
theorem dX3_writeDawn_31 : decode cX3_writeDawn 31 = .ok (.bipush 18, 2) := by decide +kernel
theorem dX3_writeDawn_33 : decode cX3_writeDawn 33 = .ok (.imul, 1) := by decide +kernel
theorem dX3_writeDawn_34 : decode cX3_writeDawn 34 = .ok (.bipush 18, 2) := by decide +kernel
theorem dX3_writeDawn_36 : decode cX3_writeDawn 36 = .ok (.invokestatic 35, 3) := by decide +kernel
theorem dX3_writeDawn_39 : decode cX3_writeDawn 39 = .ok (.return_, 1) := by decide +kernel
theorem dX3_goBack_0 : decode cX3_goBack 0 = .ok (.aload_n 0, 1) := by decide +kernel
theorem dX3_goBack_1 : decode cX3_goBack 1 = .ok (.getfield 12, 3) := by decide +kernel
theorem dX3_goBack_4 : decode cX3_goBack 4 = .ok (.aload_n 0, 1) := by decide +kernel
theorem dX3_goBack_5 : decode cX3_goBack 5 = .ok (.getfield 12, 3) := by decide +kernel
theorem dX3_goBack_8 : decode cX3_goBack 8 = .ok (.getfield 45, 3) := by decide +kernel
theorem dX3_goBack_11 : decode cX3_goBack 11 = .ok (.iload_n 1, 1) := by decide +kernel
theorem dX3_goBack_12 : decode cX3_goBack 12 = .ok (.isub, 1) := by decide +kernel
theorem dX3_goBack_13 : decode cX3_goBack 13 = .ok (.invokevirtual 49, 3) := by decide +kernel
theorem dX3_goBack_16 : decode cX3_goBack 16 = .ok (.aload_n 0, 1) := by decide +kernel
theorem dX3_goBack_17 : decode cX3_goBack 17 = .ok (.getfield 22, 3) := by decide +kernel
theorem dX3_goBack_20 : decode cX3_goBack 20 = .ok (.aload_n 0, 1) := by decide +kernel
theorem dX3_goBack_21 : decode cX3_goBack 21 = .ok (.getfield 12, 3) := by decide +kernel
theorem dX3_goBack_24 : decode cX3_goBack 24 = .ok (.getfield 45, 3) := by decide +kernel
theorem dX3_goBack_27 : decode cX3_goBack 27 = .ok (.bipush 18, 2) := by decide +kernel
theorem dX3_goBack_29 : decode cX3_goBack 29 = .ok (.imul, 1) := by decide +kernel
theorem dX3_goBack_30 : decode cX3_goBack 30 = .ok (.aload_n 0, 1) := by decide +kernel
theorem dX3_goBack_31 : decode cX3_goBack 31 = .ok (.getfield 12, 3) := by decide +kernel
theorem dX3_goBack_34 : decode cX3_goBack 34 = .ok (.getfield 32, 3) := by decide +kernel
theorem dX3_goBack_37 : decode cX3_goBack 37 = .ok (.iconst 0, 1) := by decide +kernel
theorem dX3_goBack_38 : decode cX3_goBack 38 = .ok (.bipush 18, 2) := by decide +kernel
theorem dX3_goBack_40 : decode cX3_goBack 40 = .ok (.invokestatic 35, 3) := by decide +kernel
theorem dX3_goBack_43 : decode cX3_goBack 43 = .ok (.return_, 1) := by decide +kernel
theorem dX3_readDusk_0 : decode cX3_readDusk 0 = .ok (.aload_n 2, 1) := by decide +kernel
theorem dX3_readDusk_1 : decode cX3_readDusk 1 = .ok (.aload_n 0, 1) := by decide +kernel
theorem dX3_readDusk_2 : decode cX3_readDusk 2 = .ok (.getfield 12, 3) := by decide +kernel
theorem dX3_readDusk_5 : decode cX3_readDusk 5 = .ok (.invokevirtual 41, 3) := by decide +kernel
theorem dX3_readDusk_8 : decode cX3_readDusk 8 = .ok (.aload_n 2, 1) := by decide +kernel
theorem dX3_readDusk_9 : decode cX3_readDusk 9 = .ok (.iload_n 1, 1) := by decide +kernel
theorem dX3_readDusk_10 : decode cX3_readDusk 10 = .ok (.invokevirtual 49, 3) := by decide +kernel
theorem dX3_readDusk_13 : decode cX3_readDusk 13 = .ok (.aload_n 0, 1) := by decide +kernel
theorem dX3_readDusk_14 : decode cX3_readDusk 14 = .ok (.getfield 18, 3) := by decide +kernel
theorem dX3_readDusk_17 : decode cX3_readDusk 17 = .ok (.iload_n 1, 1) := by decide +kernel
theorem dX3_readDusk_18 : decode cX3_readDusk 18 = .ok (.bipush 18, 2) := by decide +kernel
theorem dX3_readDusk_20 : decode cX3_readDusk 20 = .ok (.imul, 1) := by decide +kernel
theorem dX3_readDusk_21 : decode cX3_readDusk 21 = .ok (.aload_n 2, 1) := by decide +kernel
theorem dX3_readDusk_22 : decode cX3_readDusk 22 = .ok (.getfield 32, 3) := by decide +kernel
theorem dX3_readDusk_25 : decode cX3_readDusk 25 = .ok (.iconst 0, 1) := by decide +kernel
theorem dX3_readDusk_26 : decode cX3_readDusk 26 = .ok (.bipush 18, 2) := by decide +kernel
theorem dX3_readDusk_28 : decode cX3_readDusk 28 = .ok (.invokestatic 35, 3) := by decide +kernel
theorem dX3_readDusk_31 : decode cX3_readDusk 31 = .ok (.return_, 1) := by decide +kernel
theorem dX3_readDawn_0 : decode cX3_readDawn 0 = .ok (.aload_n 0, 1) := by decide +kernel
theorem dX3_readDawn_1 : decode cX3_readDawn 1 = .ok (.getfield 22, 3) := by decide +kernel
theorem dX3_readDawn_4 : decode cX3_readDawn 4 = .ok (.iload_n 1, 1) := by decide +kernel
theorem dX3_readDawn_5 : decode cX3_readDawn 5 = .ok (.iconst 1, 1) := by decide +kernel
theorem dX3_readDawn_6 : decode cX3_readDawn 6 = .ok (.iadd, 1) := by decide +kernel
theorem dX3_readDawn_7 : decode cX3_readDawn 7 = .ok (.bipush 18, 2) := by decide +kernel
theorem dX3_readDawn_9 : decode cX3_readDawn 9 = .ok (.imul, 1) := by decide +kernel
theorem dX3_readDawn_10 : decode cX3_readDawn 10 = .ok (.iload_n 2, 1) := by decide +kernel
theorem dX3_readDawn_11 : decode cX3_readDawn 11 = .ok (.iconst 3, 1) := by decide +kernel
theorem dX3_readDawn_12 : decode cX3_readDawn 12 = .ok (.imul, 1) := by decide +kernel
theorem dX3_readDawn_13 : decode cX3_readDawn 13 = .ok (.iadd, 1) := by decide +kernel
theorem dX3_readDawn_14 : decode cX3_readDawn 14 = .ok (.aload_n 3, 1) := by decide +kernel
theorem dX3_readDawn_15 : decode cX3_readDawn 15 = .ok (.iconst 0, 1) := by decide +kernel
theorem dX3_readDawn_16 : decode cX3_readDawn 16 = .ok (.iconst 3, 1) := by decide +kernel
theorem dX3_readDawn_17 : decode cX3_readDawn 17 = .ok (.invokestatic 35, 3) := by decide +kernel
theorem dX3_readDawn_20 : decode cX3_readDawn 20 = .ok (.return_, 1) := by decide +kernel
theorem dX4_init_0 : decode cX4_init 0 = .ok (.aload_n 0, 1) := by decide +kernel
theorem dX4_init_1 : decode cX4_init 1 = .ok (.invokespecial 3, 3) := by decide +kernel
theorem dX4_init_4 : decode cX4_init 4 = .ok (.aload_n 0, 1) := by decide +kernel
theorem dX4_init_5 : decode cX4_init 5 = .ok (.bipush 6, 2) := by decide +kernel
theorem dX4_init_7 : decode cX4_init 7 = .ok (.newarray .int, 2) := by decide +kernel
theorem dX4_init_9 : decode cX4_init 9 = .ok (.putfield 9, 3) := by decide +kernel
theorem dX4_init_12 : decode cX4_init 12 = .ok (.aload_n 0, 1) := by decide +kernel
theorem dX4_init_13 : decode cX4_init 13 = .ok (.bipush 6, 2) := by decide +kernel
theorem dX4_init_15 : decode cX4_init 15 = .ok (.newarray .int, 2) := by decide +kernel
theorem dX4_init_17 : decode cX4_init 17 = .ok (.putfield 15, 3) := by decide +kernel
theorem dX4_init_20 : decode cX4_init 20 = .ok (.aload_n 0, 1) := by decide +kernel
theorem dX4_init_21 : decode cX4_init 21 = .ok (.bipush 6, 2) := by decide +kernel
theorem dX4_init_23 : decode cX4_init 23 = .ok (.newarray .int, 2) := by decide +kernel
theorem dX4_init_25 : decode cX4_init 25 = .ok (.putfield 18, 3) := by decide +kernel
theorem dX4_init_28 : decode cX4_init 28 = .ok (.aload_n 0, 1) := by decide +kernel
theorem dX4_init_29 : decode cX4_init 29 = .ok (.bipush 18, 2) := by decide +kernel
theorem dX4_init_31 : decode cX4_init 31 = .ok (.newarray .int, 2) := by decide +kernel
theorem dX4_init_33 : decode cX4_init 33 = .ok (.putfield 21, 3) := by decide +kernel
theorem dX4_init_36 : decode cX4_init 36 = .ok (.aload_n 0, 1) := by decide +kernel
theorem dX4_init_37 : decode cX4_init 37 = .ok (.bipush 10, 2) := by decide +kernel
theorem dX4_init_39 : decode cX4_init 39 = .ok (.newarray .int, 2) := by decide +kernel
theorem dX4_init_41 : decode cX4_init 41 = .ok (.putfield 24, 3) := by decide +kernel
theorem dX4_init_44 : decode cX4_init 44 = .ok (.aload_n 0, 1) := by decide +kernel
theorem dX4_init_45 : decode cX4_init 45 = .ok (.bipush 10, 2) := by decide +kernel
theorem dX4_init_47 : decode cX4_init 47 = .ok (.newarray .int, 2) := by decide +kernel
theorem dX4_init_49 : decode cX4_init 49 = .ok (.putfield 27, 3) := by decide +kernel
theorem dX4_init_52 : decode cX4_init 52 = .ok (.aload_n 0, 1) := by decide +kernel
theorem dX4_init_53 : decode cX4_init 53 = .ok (.bipush 10, 2) := by decide +kernel
theorem dX4_init_55 : decode cX4_init 55 = .ok (.newarray .int, 2) := by decide +kernel
theorem dX4_init_57 : decode cX4_init 57 = .ok (.putfield 30, 3) := by decide +kernel
theorem dX4_init_60 : decode cX4_init 60 = .ok (.aload_n 0, 1) := by decide +kernel
theorem dX4_init_61 : decode cX4_init 61 = .ok (.invokevirtual 33, 3) := by decide +kernel
theorem dX4_init_64 : decode cX4_init 64 = .ok (.return_, 1) := by decide +kernel
theorem dX4_forget_0 : decode cX4_forget 0 = .ok (.aload_n 0, 1) := by decide +kernel
theorem dX4_forget_1 : decode cX4_forget 1 = .ok (.bipush 12, 2) := by decide +kernel
theorem dX4_forget_3 : decode cX4_forget 3 = .ok (.putfield 36, 3) := by decide +kernel
theorem dX4_forget_6 : decode cX4_forget 6 = .ok (.aload_n 0, 1) := by decide +kernel
theorem dX4_forget_7 : decode cX4_forget 7 = .ok (.iconst 0, 1) := by decide +kernel
theorem dX4_forget_8 : decode cX4_forget 8 = .ok (.putfield 40, 3) := by decide +kernel
theorem dX4_forget_11 : decode cX4_forget 11 = .ok (.aload_n 0, 1) := by decide +kernel
theorem dX4_forget_12 : decode cX4_forget 12 = .ok (.iconst 1, 1) := by decide +kernel
theorem dX4_forget_13 : decode cX4_forget 13 = .ok (.putfield 43, 3) := by decide +kernel
theorem dX4_forget_16 : decode cX4_forget 16 = .ok (.aload_n 0, 1) := by decide +kernel
theorem dX4_forget_17 : decode cX4_forget 17 = .ok (.iconst 0, 1) := by decide +kernel
theorem dX4_forget_18 : decode cX4_forget 18 = .ok (.putfield 46, 3) := by decide +kernel
theorem dX4_forget_21 : decode cX4_forget 21 = .ok (.aload_n 0, 1) := by decide +kernel
theorem dX4_forget_22 : decode cX4_forget 22 = .ok (.iconst 0, 1) := by decide +kernel
theorem dX4_forget_23 : decode cX4_forget 23 = .ok (.putfield 49, 3) := by decide +kernel
theorem dX4_forget_26 : decode cX4_forget 26 = .ok (.aload_n 0, 1) := by decide +kernel
theorem dX4_forget_27 : decode cX4_forget 27 = .ok (.bipush 40, 2) := by decide +kernel
theorem dX4_forget_29 : decode cX4_forget 29 = .ok (.putfield 52, 3) := by decide +kernel
theorem dX4_forget_32 : decode cX4_forget 32 = .ok (.aload_n 0, 1) := by decide +kernel
theorem dX4_forget_33 : decode cX4_forget 33 = .ok (.iconst 0, 1) := by decide +kernel
theorem dX4_forget_34 : decode cX4_forget 34 = .ok (.putfield 55, 3) := by decide +kernel
theorem dX4_forget_37 : decode cX4_forget 37 = .ok (.return_, 1) := by decide +kernel
theorem dX4_addLamp_0 : decode cX4_addLamp 0 = .ok (.aload_n 0, 1) := by decide +kernel
theorem dX4_addLamp_1 : decode cX4_addLamp 1 = .ok (.getfield 40, 3) := by decide +kernel
theorem dX4_addLamp_4 : decode cX4_addLamp 4 = .ok (.bipush 6, 2) := by decide +kernel
theorem dX4_addLamp_6 : decode cX4_addLamp 6 = .ok (.if_icmp .ge 92, 3) := by decide +kernel
theorem dX4_addLamp_9 : decode cX4_addLamp 9 = .ok (.aload_n 0, 1) := by decide +kernel
theorem dX4_addLamp_10 : decode cX4_addLamp 10 = .ok (.getfield 9, 3) := by decide +kernel
theorem dX4_addLamp_13 : decode cX4_addLamp 13 = .ok (.aload_n 0, 1) := by decide +kernel
theorem dX4_addLamp_14 : decode cX4_addLamp 14 = .ok (.getfield 40, 3) := by decide +kernel
theorem dX4_addLamp_17 : decode cX4_addLamp 17 = .ok (.iload_n 1, 1) := by decide +kernel
theorem dX4_addLamp_18 : decode cX4_addLamp 18 = .ok (.iastore, 1) := by decide +kernel
theorem dX4_addLamp_19 : decode cX4_addLamp 19 = .ok (.aload_n 0, 1) := by decide +kernel
theorem dX4_addLamp_20 : decode cX4_addLamp 20 = .ok (.getfield 15, 3) := by decide +kernel
theorem dX4_addLamp_23 : decode cX4_addLamp 23 = .ok (.aload_n 0, 1) := by decide +kernel
theorem dX4_addLamp_24 : decode cX4_addLamp 24 = .ok (.getfield 40, 3) := by decide +kernel
theorem dX4_addLamp_27 : decode cX4_addLamp 27 = .ok (.iload_n 2, 1) := by decide +kernel
theorem dX4_addLamp_28 : decode cX4_addLamp 28 = .ok (.iastore, 1) := by decide +kernel
theorem dX4_addLamp_29 : decode cX4_addLamp 29 = .ok (.aload_n 0, 1) := by decide +kernel
theorem dX4_addLamp_30 : decode cX4_addLamp 30 = .ok (.getfield 18, 3) := by decide +kernel
theorem dX4_addLamp_33 : decode cX4_addLamp 33 = .ok (.aload_n 0, 1) := by decide +kernel
theorem dX4_addLamp_34 : decode cX4_addLamp 34 = .ok (.getfield 40, 3) := by decide +kernel
theorem dX4_addLamp_37 : decode cX4_addLamp 37 = .ok (.iconst (-1), 1) := by decide +kernel
theorem dX4_addLamp_38 : decode cX4_addLamp 38 = .ok (.iastore, 1) := by decide +kernel
theorem dX4_addLamp_39 : decode cX4_addLamp 39 = .ok (.aload_n 0, 1) := by decide +kernel
theorem dX4_addLamp_40 : decode cX4_addLamp 40 = .ok (.getfield 21, 3) := by decide +kernel
theorem dX4_addLamp_43 : decode cX4_addLamp 43 = .ok (.aload_n 0, 1) := by decide +kernel
theorem dX4_addLamp_44 : decode cX4_addLamp 44 = .ok (.getfield 40, 3) := by decide +kernel
theorem dX4_addLamp_47 : decode cX4_addLamp 47 = .ok (.iconst 3, 1) := by decide +kernel
theorem dX4_addLamp_48 : decode cX4_addLamp 48 = .ok (.imul, 1) := by decide +kernel
theorem dX4_addLamp_49 : decode cX4_addLamp 49 = .ok (.iload_n 3, 1) := by decide +kernel
theorem dX4_addLamp_50 : decode cX4_addLamp 50 = .ok (.iastore, 1) := by decide +kernel
theorem dX4_addLamp_51 : decode cX4_addLamp 51 = .ok (.aload_n 0, 1) := by decide +kernel
theorem dX4_addLamp_52 : decode cX4_addLamp 52 = .ok (.getfield 21, 3) := by decide +kernel
theorem dX4_addLamp_55 : decode cX4_addLamp 55 = .ok (.aload_n 0, 1) := by decide +kernel
theorem dX4_addLamp_56 : decode cX4_addLamp 56 = .ok (.getfield 40, 3) := by decide +kernel
theorem dX4_addLamp_59 : decode cX4_addLamp 59 = .ok (.iconst 3, 1) := by decide +kernel
theorem dX4_addLamp_60 : decode cX4_addLamp 60 = .ok (.imul, 1) := by decide +kernel
theorem dX4_addLamp_61 : decode cX4_addLamp 61 = .ok (.iconst 1, 1) := by decide +kernel
theorem dX4_addLamp_62 : decode cX4_addLamp 62 = .ok (.iadd, 1) := by decide +kernel
theorem dX4_addLamp_63 : decode cX4_addLamp 63 = .ok (.iload 4, 2) := by decide +kernel
theorem dX4_addLamp_65 : decode cX4_addLamp 65 = .ok (.iastore, 1) := by decide +kernel
theorem dX4_addLamp_66 : decode cX4_addLamp 66 = .ok (.aload_n 0, 1) := by decide +kernel
theorem dX4_addLamp_67 : decode cX4_addLamp 67 = .ok (.getfield 21, 3) := by decide +kernel
theorem dX4_addLamp_70 : decode cX4_addLamp 70 = .ok (.aload_n 0, 1) := by decide +kernel
theorem dX4_addLamp_71 : decode cX4_addLamp 71 = .ok (.getfield 40, 3) := by decide +kernel
theorem dX4_addLamp_74 : decode cX4_addLamp 74 = .ok (.iconst 3, 1) := by decide +kernel
theorem dX4_addLamp_75 : decode cX4_addLamp 75 = .ok (.imul, 1) := by decide +kernel
theorem dX4_addLamp_76 : decode cX4_addLamp 76 = .ok (.iconst 2, 1) := by decide +kernel
theorem dX4_addLamp_77 : decode cX4_addLamp 77 = .ok (.iadd, 1) := by decide +kernel
theorem dX4_addLamp_78 : decode cX4_addLamp 78 = .ok (.aload_n 0, 1) := by decide +kernel
theorem dX4_addLamp_79 : decode cX4_addLamp 79 = .ok (.getfield 36, 3) := by decide +kernel
theorem dX4_addLamp_82 : decode cX4_addLamp 82 = .ok (.iload_n 3, 1) := by decide +kernel
theorem dX4_addLamp_83 : decode cX4_addLamp 83 = .ok (.isub, 1) := by decide +kernel
theorem dX4_addLamp_84 : decode cX4_addLamp 84 = .ok (.iload 4, 2) := by decide +kernel
theorem dX4_addLamp_86 : decode cX4_addLamp 86 = .ok (.isub, 1) := by decide +kernel
theorem dX4_addLamp_87 : decode cX4_addLamp 87 = .ok (.iastore, 1) := by decide +kernel
theorem dX4_addLamp_88 : decode cX4_addLamp 88 = .ok (.aload_n 0, 1) := by decide +kernel
theorem dX4_addLamp_89 : decode cX4_addLamp 89 = .ok (.dup, 1) := by decide +kernel
theorem dX4_addLamp_90 : decode cX4_addLamp 90 = .ok (.getfield 40, 3) := by decide +kernel
theorem dX4_addLamp_93 : decode cX4_addLamp 93 = .ok (.iconst 1, 1) := by decide +kernel
theorem dX4_addLamp_94 : decode cX4_addLamp 94 = .ok (.iadd, 1) := by decide +kernel
theorem dX4_addLamp_95 : decode cX4_addLamp 95 = .ok (.putfield 40, 3) := by decide +kernel
theorem dX4_addLamp_98 : decode cX4_addLamp 98 = .ok (.return_, 1) := by decide +kernel
theorem dX4_addFog_0 : decode cX4_addFog 0 = .ok (.aload_n 0, 1) := by decide +kernel
theorem dX4_addFog_1 : decode cX4_addFog 1 = .ok (.getfield 55, 3) := by decide +kernel
theorem dX4_addFog_4 : decode cX4_addFog 4 = .ok (.bipush 10, 2) := by decide +kernel
theorem dX4_addFog_6 : decode cX4_addFog 6 = .ok (.if_icmp .ge 43, 3) := by decide +kernel
theorem dX4_addFog_9 : decode cX4_addFog 9 = .ok (.aload_n 0, 1) := by decide +kernel
theorem dX4_addFog_10 : decode cX4_addFog 10 = .ok (.getfield 24, 3) := by decide +kernel
theorem dX4_addFog_13 : decode cX4_addFog 13 = .ok (.aload_n 0, 1) := by decide +kernel
theorem dX4_addFog_14 : decode cX4_addFog 14 = .ok (.getfield 55, 3) := by decide +kernel
theorem dX4_addFog_17 : decode cX4_addFog 17 = .ok (.iload_n 1, 1) := by decide +kernel
theorem dX4_addFog_18 : decode cX4_addFog 18 = .ok (.iastore, 1) := by decide +kernel
theorem dX4_addFog_19 : decode cX4_addFog 19 = .ok (.aload_n 0, 1) := by decide +kernel
theorem dX4_addFog_20 : decode cX4_addFog 20 = .ok (.getfield 27, 3) := by decide +kernel
theorem dX4_addFog_23 : decode cX4_addFog 23 = .ok (.aload_n 0, 1) := by decide +kernel
theorem dX4_addFog_24 : decode cX4_addFog 24 = .ok (.getfield 55, 3) := by decide +kernel
theorem dX4_addFog_27 : decode cX4_addFog 27 = .ok (.iload_n 2, 1) := by decide +kernel
theorem dX4_addFog_28 : decode cX4_addFog 28 = .ok (.iastore, 1) := by decide +kernel
theorem dX4_addFog_29 : decode cX4_addFog 29 = .ok (.aload_n 0, 1) := by decide +kernel
theorem dX4_addFog_30 : decode cX4_addFog 30 = .ok (.getfield 30, 3) := by decide +kernel
theorem dX4_addFog_33 : decode cX4_addFog 33 = .ok (.aload_n 0, 1) := by decide +kernel
theorem dX4_addFog_34 : decode cX4_addFog 34 = .ok (.getfield 55, 3) := by decide +kernel
theorem dX4_addFog_37 : decode cX4_addFog 37 = .ok (.iload_n 3, 1) := by decide +kernel
theorem dX4_addFog_38 : decode cX4_addFog 38 = .ok (.iastore, 1) := by decide +kernel
theorem dX4_addFog_39 : decode cX4_addFog 39 = .ok (.aload_n 0, 1) := by decide +kernel
theorem dX4_addFog_40 : decode cX4_addFog 40 = .ok (.dup, 1) := by decide +kernel
theorem dX4_addFog_41 : decode cX4_addFog 41 = .ok (.getfield 55, 3) := by decide +kernel
theorem dX4_addFog_44 : decode cX4_addFog 44 = .ok (.iconst 1, 1) := by decide +kernel
theorem dX4_addFog_45 : decode cX4_addFog 45 = .ok (.iadd, 1) := by decide +kernel
theorem dX4_addFog_46 : decode cX4_addFog 46 = .ok (.putfield 55, 3) := by decide +kernel
theorem dX4_addFog_49 : decode cX4_addFog 49 = .ok (.return_, 1) := by decide +kernel
theorem dX4_hides_0 : decode cX4_hides 0 = .ok (.iconst 0, 1) := by decide +kernel
theorem dX4_hides_1 : decode cX4_hides 1 = .ok (.istore 4, 2) := by decide +kernel
theorem dX4_hides_3 : decode cX4_hides 3 = .ok (.iload 4, 2) := by decide +kernel
theorem dX4_hides_5 : decode cX4_hides 5 = .ok (.aload_n 0, 1) := by decide +kernel
theorem dX4_hides_6 : decode cX4_hides 6 = .ok (.getfield 55, 3) := by decide +kernel
theorem dX4_hides_9 : decode cX4_hides 9 = .ok (.if_icmp .ge 44, 3) := by decide +kernel
theorem dX4_hides_12 : decode cX4_hides 12 = .ok (.aload_n 0, 1) := by decide +kernel
theorem dX4_hides_13 : decode cX4_hides 13 = .ok (.getfield 24, 3) := by decide +kernel
theorem dX4_hides_16 : decode cX4_hides 16 = .ok (.iload 4, 2) := by decide +kernel
theorem dX4_hides_18 : decode cX4_hides 18 = .ok (.iaload, 1) := by decide +kernel
theorem dX4_hides_19 : decode cX4_hides 19 = .ok (.iload_n 1, 1) := by decide +kernel
theorem dX4_hides_20 : decode cX4_hides 20 = .ok (.if_icmp .ne 27, 3) := by decide +kernel
theorem dX4_hides_23 : decode cX4_hides 23 = .ok (.aload_n 0, 1) := by decide +kernel
theorem dX4_hides_24 : decode cX4_hides 24 = .ok (.getfield 27, 3) := by decide +kernel
theorem dX4_hides_27 : decode cX4_hides 27 = .ok (.iload 4, 2) := by decide +kernel
theorem dX4_hides_29 : decode cX4_hides 29 = .ok (.iaload, 1) := by decide +kernel
theorem dX4_hides_30 : decode cX4_hides 30 = .ok (.iload_n 2, 1) := by decide +kernel
theorem dX4_hides_31 : decode cX4_hides 31 = .ok (.if_icmp .ne 16, 3) := by decide +kernel
theorem dX4_hides_34 : decode cX4_hides 34 = .ok (.aload_n 0, 1) := by decide +kernel
theorem dX4_hides_35 : decode cX4_hides 35 = .ok (.getfield 30, 3) := by decide +kernel
theorem dX4_hides_38 : decode cX4_hides 38 = .ok (.iload 4, 2) := by decide +kernel
theorem dX4_hides_40 : decode cX4_hides 40 = .ok (.iaload, 1) := by decide +kernel
theorem dX4_hides_41 : decode cX4_hides 41 = .ok (.iload_n 3, 1) := by decide +kernel
theorem dX4_hides_42 : decode cX4_hides 42 = .ok (.if_icmp .ne 5, 3) := by decide +kernel
theorem dX4_hides_45 : decode cX4_hides 45 = .ok (.iconst 1, 1) := by decide +kernel
theorem dX4_hides_46 : decode cX4_hides 46 = .ok (.ireturn, 1) := by decide +kernel
theorem dX4_hides_47 : decode cX4_hides 47 = .ok (.iinc 4 1, 3) := by decide +kernel
theorem dX4_hides_50 : decode cX4_hides 50 = .ok (.goto (-47), 3) := by decide +kernel
theorem dX4_hides_53 : decode cX4_hides 53 = .ok (.iconst 0, 1) := by decide +kernel
theorem dX4_hides_54 : decode cX4_hides 54 = .ok (.ireturn, 1) := by decide +kernel
theorem dX4_findLastFog_0 : decode cX4_findLastFog 0 = .ok (.iconst (-1), 1) := by decide +kernel
theorem dX4_findLastFog_1 : decode cX4_findLastFog 1 = .ok (.istore_n 1, 1) := by decide +kernel
theorem dX4_findLastFog_2 : decode cX4_findLastFog 2 = .ok (.iconst 0, 1) := by decide +kernel
theorem dX4_findLastFog_3 : decode cX4_findLastFog 3 = .ok (.istore_n 2, 1) := by decide +kernel
theorem dX4_findLastFog_4 : decode cX4_findLastFog 4 = .ok (.iload_n 2, 1) := by decide +kernel
theorem dX4_findLastFog_5 : decode cX4_findLastFog 5 = .ok (.aload_n 0, 1) := by decide +kernel
theorem dX4_findLastFog_6 : decode cX4_findLastFog 6 = .ok (.getfield 55, 3) := by decide +kernel
theorem dX4_findLastFog_9 : decode cX4_findLastFog 9 = .ok (.if_icmp .ge 20, 3) := by decide +kernel
theorem dX4_findLastFog_12 : decode cX4_findLastFog 12 = .ok (.iload_n 1, 1) := by decide +kernel
theorem dX4_findLastFog_13 : decode cX4_findLastFog 13 = .ok (.aload_n 0, 1) := by decide +kernel
theorem dX4_findLastFog_14 : decode cX4_findLastFog 14 = .ok (.getfield 24, 3) := by decide +kernel
theorem dX4_findLastFog_17 : decode cX4_findLastFog 17 = .ok (.iload_n 2, 1) := by decide +kernel
theorem dX4_findLastFog_18 : decode cX4_findLastFog 18 = .ok (.iaload, 1) := by decide +kernel
theorem dX4_findLastFog_19 : decode cX4_findLastFog 19 = .ok (.invokestatic 58, 3) := by decide +kernel
theorem dX4_findLastFog_22 : decode cX4_findLastFog 22 = .ok (.istore_n 1, 1) := by decide +kernel
theorem dX4_findLastFog_23 : decode cX4_findLastFog 23 = .ok (.iinc 2 1, 3) := by decide +kernel
theorem dX4_findLastFog_26 : decode cX4_findLastFog 26 = .ok (.goto (-22), 3) := by decide +kernel
theorem dX4_findLastFog_29 : decode cX4_findLastFog 29 = .ok (.iload_n 1, 1) := by decide +kernel
theorem dX4_findLastFog_30 : decode cX4_findLastFog 30 = .ok (.ireturn, 1) := by decide +kernel
theorem dX4_countAcross_0 : decode cX4_countAcross 0 = .ok (.iconst 0, 1) := by decide +kernel
theorem dX4_countAcross_1 : decode cX4_countAcross 1 = .ok (.istore_n 2, 1) := by decide +kernel
theorem dX4_countAcross_2 : decode cX4_countAcross 2 = .ok (.iconst 0, 1) := by decide +kernel
theorem dX4_countAcross_3 : decode cX4_countAcross 3 = .ok (.istore_n 3, 1) := by decide +kernel
theorem dX4_countAcross_4 : decode cX4_countAcross 4 = .ok (.iload_n 3, 1) := by decide +kernel
theorem dX4_countAcross_5 : decode cX4_countAcross 5 = .ok (.aload_n 0, 1) := by decide +kernel
theorem dX4_countAcross_6 : decode cX4_countAcross 6 = .ok (.getfield 40, 3) := by decide +kernel
theorem dX4_countAcross_9 : decode cX4_countAcross 9 = .ok (.if_icmp .ge 27, 3) := by decide +kernel
theorem dX4_countAcross_12 : decode cX4_countAcross 12 = .ok (.aload_n 0, 1) := by decide +kernel
theorem dX4_countAcross_13 : decode cX4_countAcross 13 = .ok (.getfield 15, 3) := by decide +kernel
theorem dX4_countAcross_16 : decode cX4_countAcross 16 = .ok (.iload_n 3, 1) := by decide +kernel
theorem dX4_countAcross_17 : decode cX4_countAcross 17 = .ok (.iaload, 1) := by decide +kernel
theorem dX4_countAcross_18 : decode cX4_countAcross 18 = .ok (.aload_n 0, 1) := by decide +kernel
theorem dX4_countAcross_19 : decode cX4_countAcross 19 = .ok (.getfield 15, 3) := by decide +kernel
theorem dX4_countAcross_22 : decode cX4_countAcross 22 = .ok (.iload_n 1, 1) := by decide +kernel
theorem dX4_countAcross_23 : decode cX4_countAcross 23 = .ok (.iaload, 1) := by decide +kernel
theorem dX4_countAcross_24 : decode cX4_countAcross 24 = .ok (.if_icmp .eq 6, 3) := by decide +kernel
theorem dX4_countAcross_27 : decode cX4_countAcross 27 = .ok (.iinc 2 1, 3) := by decide +kernel
theorem dX4_countAcross_30 : decode cX4_countAcross 30 = .ok (.iinc 3 1, 3) := by decide +kernel
theorem dX4_countAcross_33 : decode cX4_countAcross 33 = .ok (.goto (-29), 3) := by decide +kernel
theorem dX4_countAcross_36 : decode cX4_countAcross 36 = .ok (.iload_n 2, 1) := by decide +kernel
theorem dX4_countAcross_37 : decode cX4_countAcross 37 = .ok (.ireturn, 1) := by decide +kernel
theorem dX4_findAcross_0 : decode cX4_findAcross 0 = .ok (.iconst 0, 1) := by decide +kernel
theorem dX4_findAcross_1 : decode cX4_findAcross 1 = .ok (.istore_n 3, 1) := by decide +kernel
theorem dX4_findAcross_2 : decode cX4_findAcross 2 = .ok (.iconst 0, 1) := by decide +kernel
theorem dX4_findAcross_3 : decode cX4_findAcross 3 = .ok (.istore 4, 2) := by decide +kernel
theorem dX4_findAcross_5 : decode cX4_findAcross 5 = .ok (.iload 4, 2) := by decide +kernel
theorem dX4_findAcross_7 : decode cX4_findAcross 7 = .ok (.aload_n 0, 1) := by decide +kernel
theorem dX4_findAcross_8 : decode cX4_findAcross 8 = .ok (.getfield 40, 3) := by decide +kernel
theorem dX4_findAcross_11 : decode cX4_findAcross 11 = .ok (.if_icmp .ge 36, 3) := by decide +kernel
theorem dX4_findAcross_14 : decode cX4_findAcross 14 = .ok (.aload_n 0, 1) := by decide +kernel
theorem dX4_findAcross_15 : decode cX4_findAcross 15 = .ok (.getfield 15, 3) := by decide +kernel
theorem dX4_findAcross_18 : decode cX4_findAcross 18 = .ok (.iload 4, 2) := by decide +kernel
theorem dX4_findAcross_20 : decode cX4_findAcross 20 = .ok (.iaload, 1) := by decide +kernel
theorem dX4_findAcross_21 : decode cX4_findAcross 21 = .ok (.aload_n 0, 1) := by decide +kernel
theorem dX4_findAcross_22 : decode cX4_findAcross 22 = .ok (.getfield 15, 3) := by decide +kernel
theorem dX4_findAcross_25 : decode cX4_findAcross 25 = .ok (.iload_n 1, 1) := by decide +kernel
theorem dX4_findAcross_26 : decode cX4_findAcross 26 = .ok (.iaload, 1) := by decide +kernel
theorem dX4_findAcross_27 : decode cX4_findAcross 27 = .ok (.if_icmp .eq 14, 3) := by decide +kernel
theorem dX4_findAcross_30 : decode cX4_findAcross 30 = .ok (.iload_n 3, 1) := by decide +kernel
theorem dX4_findAcross_31 : decode cX4_findAcross 31 = .ok (.iload_n 2, 1) := by decide +kernel
theorem dX4_findAcross_32 : decode cX4_findAcross 32 = .ok (.if_icmp .ne 6, 3) := by decide +kernel
theorem dX4_findAcross_35 : decode cX4_findAcross 35 = .ok (.iload 4, 2) := by decide +kernel
theorem dX4_findAcross_37 : decode cX4_findAcross 37 = .ok (.ireturn, 1) := by decide +kernel
theorem dX4_findAcross_38 : decode cX4_findAcross 38 = .ok (.iinc 3 1, 3) := by decide +kernel
theorem dX4_findAcross_41 : decode cX4_findAcross 41 = .ok (.iinc 4 1, 3) := by decide +kernel
theorem dX4_findAcross_44 : decode cX4_findAcross 44 = .ok (.goto (-39), 3) := by decide +kernel
theorem dX4_findAcross_47 : decode cX4_findAcross 47 = .ok (.iconst (-1), 1) := by decide +kernel
theorem dX4_findAcross_48 : decode cX4_findAcross 48 = .ok (.ireturn, 1) := by decide +kernel
theorem dX5_init_0 : decode cX5_init 0 = .ok (.aload_n 0, 1) := by decide +kernel
theorem dX5_init_1 : decode cX5_init 1 = .ok (.invokespecial 3, 3) := by decide +kernel
theorem dX5_init_4 : decode cX5_init 4 = .ok (.aload_n 0, 1) := by decide +kernel
theorem dX5_init_5 : decode cX5_init 5 = .ok (.bipush 18, 2) := by decide +kernel
theorem dX5_init_7 : decode cX5_init 7 = .ok (.newarray .int, 2) := by decide +kernel
theorem dX5_init_9 : decode cX5_init 9 = .ok (.putfield 9, 3) := by decide +kernel
theorem dX5_init_12 : decode cX5_init 12 = .ok (.aload_n 0, 1) := by decide +kernel
theorem dX5_init_13 : decode cX5_init 13 = .ok (.aload_n 1, 1) := by decide +kernel
theorem dX5_init_14 : decode cX5_init 14 = .ok (.putfield 15, 3) := by decide +kernel
theorem dX5_init_17 : decode cX5_init 17 = .ok (.aload_n 0, 1) := by decide +kernel
theorem dX5_init_18 : decode cX5_init 18 = .ok (.aload_n 1, 1) := by decide +kernel
theorem dX5_init_19 : decode cX5_init 19 = .ok (.getfield 19, 3) := by decide +kernel
theorem dX5_init_22 : decode cX5_init 22 = .ok (.putfield 24, 3) := by decide +kernel
theorem dX5_init_25 : decode cX5_init 25 = .ok (.aload_n 0, 1) := by decide +kernel
theorem dX5_init_26 : decode cX5_init 26 = .ok (.aload_n 1, 1) := by decide +kernel
theorem dX5_init_27 : decode cX5_init 27 = .ok (.getfield 25, 3) := by decide +kernel
theorem dX5_init_30 : decode cX5_init 30 = .ok (.putfield 29, 3) := by decide +kernel
theorem dX5_init_33 : decode cX5_init 33 = .ok (.return_, 1) := by decide +kernel
theorem dX5_obey_0 : decode cX5_obey 0 = .ok (.aload_n 0, 1) := by decide +kernel
theorem dX5_obey_1 : decode cX5_obey 1 = .ok (.aload_n 1, 1) := by decide +kernel
theorem dX5_obey_2 : decode cX5_obey 2 = .ok (.putfield 15, 3) := by decide +kernel
theorem dX5_obey_5 : decode cX5_obey 5 = .ok (.aload_n 0, 1) := by decide +kernel
theorem dX5_obey_6 : decode cX5_obey 6 = .ok (.aload_n 2, 1) := by decide +kernel
theorem dX5_obey_7 : decode cX5_obey 7 = .ok (.putfield 24, 3) := by decide +kernel
theorem dX5_obey_10 : decode cX5_obey 10 = .ok (.aload_n 0, 1) := by decide +kernel
theorem dX5_obey_11 : decode cX5_obey 11 = .ok (.iload_n 3, 1) := by decide +kernel
theorem dX5_obey_12 : decode cX5_obey 12 = .ok (.iconst 1, 1) := by decide +kernel
theorem dX5_obey_13 : decode cX5_obey 13 = .ok (.iand, 1) := by decide +kernel
theorem dX5_obey_14 : decode cX5_obey 14 = .ok (.ifCond .eq 17, 3) := by decide +kernel
theorem dX5_obey_17 : decode cX5_obey 17 = .ok (.aload_n 0, 1) := by decide +kernel
theorem dX5_obey_18 : decode cX5_obey 18 = .ok (.getfield 15, 3) := by decide +kernel
theorem dX5_obey_21 : decode cX5_obey 21 = .ok (.getfield 25, 3) := by decide +kernel
theorem dX5_obey_24 : decode cX5_obey 24 = .ok (.iconst 1, 1) := by decide +kernel
theorem dX5_obey_25 : decode cX5_obey 25 = .ok (.iadd, 1) := by decide +kernel
theorem dX5_obey_26 : decode cX5_obey 26 = .ok (.iconst 2, 1) := by decide +kernel
theorem dX5_obey_27 : decode cX5_obey 27 = .ok (.idiv, 1) := by decide +kernel
theorem dX5_obey_28 : decode cX5_obey 28 = .ok (.goto 10, 3) := by decide +kernel
theorem dX5_obey_31 : decode cX5_obey 31 = .ok (.aload_n 0, 1) := by decide +kernel
theorem dX5_obey_32 : decode cX5_obey 32 = .ok (.getfield 15, 3) := by decide +kernel
theorem dX5_obey_35 : decode cX5_obey 35 = .ok (.getfield 25, 3) := by decide +kernel
theorem dX5_obey_38 : decode cX5_obey 38 = .ok (.putfield 29, 3) := by decide +kernel
theorem dX5_obey_41 : decode cX5_obey 41 = .ok (.aload_n 0, 1) := by decide +kernel
theorem dX5_obey_42 : decode cX5_obey 42 = .ok (.iload_n 3, 1) := by decide +kernel
theorem dX5_obey_43 : decode cX5_obey 43 = .ok (.iconst 2, 1) := by decide +kernel
theorem dX5_obey_44 : decode cX5_obey 44 = .ok (.iand, 1) := by decide +kernel
theorem dX5_obey_45 : decode cX5_obey 45 = .ok (.ifCond .eq 7, 3) := by decide +kernel
theorem dX5_obey_48 : decode cX5_obey 48 = .ok (.iconst 1, 1) := by decide +kernel
theorem dX5_obey_49 : decode cX5_obey 49 = .ok (.goto 4, 3) := by decide +kernel
theorem dX5_obey_52 : decode cX5_obey 52 = .ok (.iconst 0, 1) := by decide +kernel
theorem dX5_obey_53 : decode cX5_obey 53 = .ok (.putfield 30, 3) := by decide +kernel
theorem dX5_obey_56 : decode cX5_obey 56 = .ok (.return_, 1) := by decide +kernel
theorem dX5_goToEaster_0 : decode cX5_goToEaster 0 = .ok (.aload_n 0, 1) := by decide +kernel
theorem dX5_goToEaster_1 : decode cX5_goToEaster 1 = .ok (.getfield 15, 3) := by decide +kernel
theorem dX5_goToEaster_4 : decode cX5_goToEaster 4 = .ok (.invokevirtual 34, 3) := by decide +kernel
theorem dX5_goToEaster_7 : decode cX5_goToEaster 7 = .ok (.istore_n 3, 1) := by decide +kernel
theorem dX5_goToEaster_8 : decode cX5_goToEaster 8 = .ok (.iconst 0, 1) := by decide +kernel
theorem dX5_goToEaster_9 : decode cX5_goToEaster 9 = .ok (.istore 4, 2) := by decide +kernel
theorem dX5_goToEaster_11 : decode cX5_goToEaster 11 = .ok (.aload_n 1, 1) := by decide +kernel
theorem dX5_goToEaster_12 : decode cX5_goToEaster 12 = .ok (.getfield 38, 3) := by decide +kernel
theorem dX5_goToEaster_15 : decode cX5_goToEaster 15 = .ok (.istore 5, 2) := by decide +kernel
theorem dX5_goToEaster_17 : decode cX5_goToEaster 17 = .ok (.iload 5, 2) := by decide +kernel
theorem dX5_goToEaster_19 : decode cX5_goToEaster 19 = .ok (.aload_n 0, 1) := by decide +kernel
theorem dX5_goToEaster_20 : decode cX5_goToEaster 20 = .ok (.getfield 15, 3) := by decide +kernel
theorem dX5_goToEaster_23 : decode cX5_goToEaster 23 = .ok (.getfield 43, 3) := by decide +kernel
theorem dX5_goToEaster_26 : decode cX5_goToEaster 26 = .ok (.if_icmp .ge 55, 3) := by decide +kernel
theorem dX5_goToEaster_29 : decode cX5_goToEaster 29 = .ok (.iload_n 2, 1) := by decide +kernel
theorem dX5_goToEaster_30 : decode cX5_goToEaster 30 = .ok (.aload_n 1, 1) := by decide +kernel
theorem dX5_goToEaster_31 : decode cX5_goToEaster 31 = .ok (.getfield 46, 3) := by decide +kernel
theorem dX5_goToEaster_34 : decode cX5_goToEaster 34 = .ok (.iconst (-1), 1) := by decide +kernel
theorem dX5_goToEaster_35 : decode cX5_goToEaster 35 = .ok (.ixor, 1) := by decide +kernel
theorem dX5_goToEaster_36 : decode cX5_goToEaster 36 = .ok (.iand, 1) := by decide +kernel
theorem dX5_goToEaster_37 : decode cX5_goToEaster 37 = .ok (.ifCond .eq 9, 3) := by decide +kernel
theorem dX5_goToEaster_40 : decode cX5_goToEaster 40 = .ok (.iload 4, 2) := by decide +kernel
theorem dX5_goToEaster_42 : decode cX5_goToEaster 42 = .ok (.iconst 2, 1) := by decide +kernel
theorem dX5_goToEaster_43 : decode cX5_goToEaster 43 = .ok (.if_icmp .ne 4, 3) := by decide +kernel
theorem dX5_goToEaster_46 : decode cX5_goToEaster 46 = .ok (.return_, 1) := by decide +kernel
theorem dX5_goToEaster_47 : decode cX5_goToEaster 47 = .ok (.aload_n 0, 1) := by decide +kernel
theorem dX5_goToEaster_48 : decode cX5_goToEaster 48 = .ok (.aload_n 1, 1) := by decide +kernel
theorem dX5_goToEaster_49 : decode cX5_goToEaster 49 = .ok (.invokevirtual 49, 3) := by decide +kernel
theorem dX5_goToEaster_52 : decode cX5_goToEaster 52 = .ok (.istore 6, 2) := by decide +kernel
theorem dX5_goToEaster_54 : decode cX5_goToEaster 54 = .ok (.iload 6, 2) := by decide +kernel
theorem dX5_goToEaster_56 : decode cX5_goToEaster 56 = .ok (.ifCond .ne 9, 3) := by decide +kernel
theorem dX5_goToEaster_59 : decode cX5_goToEaster 59 = .ok (.iload 5, 2) := by decide +kernel
theorem dX5_goToEaster_61 : decode cX5_goToEaster 61 = .ok (.iload_n 3, 1) := by decide +kernel
theorem dX5_goToEaster_62 : decode cX5_goToEaster 62 = .ok (.if_icmp .gt 7, 3) := by decide +kernel
theorem dX5_goToEaster_65 : decode cX5_goToEaster 65 = .ok (.iconst 0, 1) := by decide +kernel
theorem dX5_goToEaster_66 : decode cX5_goToEaster 66 = .ok (.goto 7, 3) := by decide +kernel
theorem dX5_goToEaster_69 : decode cX5_goToEaster 69 = .ok (.iload 4, 2) := by decide +kernel
theorem dX5_goToEaster_71 : decode cX5_goToEaster 71 = .ok (.iconst 1, 1) := by decide +kernel
theorem dX5_goToEaster_72 : decode cX5_goToEaster 72 = .ok (.iadd, 1) := by decide +kernel
theorem dX5_goToEaster_73 : decode cX5_goToEaster 73 = .ok (.istore 4, 2) := by decide +kernel
theorem dX5_goToEaster_75 : decode cX5_goToEaster 75 = .ok (.iinc 5 1, 3) := by decide +kernel
theorem dX5_goToEaster_78 : decode cX5_goToEaster 78 = .ok (.goto (-61), 3) := by decide +kernel
theorem dX5_goToEaster_81 : decode cX5_goToEaster 81 = .ok (.return_, 1) := by decide +kernel
theorem dX5_findWedding_0 : decode cX5_findWedding 0 = .ok (.aload_n 0, 1) := by decide +kernel
theorem dX5_findWedding_1 : decode cX5_findWedding 1 = .ok (.getfield 24, 3) := by decide +kernel
theorem dX5_findWedding_4 : decode cX5_findWedding 4 = .ok (.iload_n 2, 1) := by decide +kernel
theorem dX5_findWedding_5 : decode cX5_findWedding 5 = .ok (.iaload, 1) := by decide +kernel
theorem dX5_findWedding_6 : decode cX5_findWedding 6 = .ok (.iconst (-1), 1) := by decide +kernel
theorem dX5_findWedding_7 : decode cX5_findWedding 7 = .ok (.if_icmp .eq 22, 3) := by decide +kernel
theorem dX5_findWedding_10 : decode cX5_findWedding 10 = .ok (.aload_n 1, 1) := by decide +kernel
theorem dX5_findWedding_11 : decode cX5_findWedding 11 = .ok (.getfield 53, 3) := by decide +kernel
theorem dX5_findWedding_14 : decode cX5_findWedding 14 = .ok (.iload_n 2, 1) := by decide +kernel
theorem dX5_findWedding_15 : decode cX5_findWedding 15 = .ok (.iaload, 1) := by decide +kernel
theorem dX5_findWedding_16 : decode cX5_findWedding 16 = .ok (.aload_n 0, 1) := by decide +kernel
theorem dX5_findWedding_17 : decode cX5_findWedding 17 = .ok (.getfield 24, 3) := by decide +kernel
theorem dX5_findWedding_20 : decode cX5_findWedding 20 = .ok (.iload_n 2, 1) := by decide +kernel
theorem dX5_findWedding_21 : decode cX5_findWedding 21 = .ok (.iaload, 1) := by decide +kernel
theorem dX5_findWedding_22 : decode cX5_findWedding 22 = .ok (.if_icmp .ne 7, 3) := by decide +kernel
theorem dX5_findWedding_25 : decode cX5_findWedding 25 = .ok (.iconst 1, 1) := by decide +kernel
theorem dX5_findWedding_26 : decode cX5_findWedding 26 = .ok (.goto 4, 3) := by decide +kernel
theorem dX5_findWedding_29 : decode cX5_findWedding 29 = .ok (.iconst 0, 1) := by decide +kernel
theorem dX5_findWedding_30 : decode cX5_findWedding 30 = .ok (.istore_n 3, 1) := by decide +kernel
theorem dX5_findWedding_31 : decode cX5_findWedding 31 = .ok (.iload_n 3, 1) := by decide +kernel
theorem dX5_findWedding_32 : decode cX5_findWedding 32 = .ok (.ifCond .eq 12, 3) := by decide +kernel
theorem dX5_findWedding_35 : decode cX5_findWedding 35 = .ok (.aload_n 1, 1) := by decide +kernel
theorem dX5_findWedding_36 : decode cX5_findWedding 36 = .ok (.getfield 56, 3) := by decide +kernel
theorem dX5_findWedding_39 : decode cX5_findWedding 39 = .ok (.iload_n 2, 1) := by decide +kernel
theorem dX5_findWedding_40 : decode cX5_findWedding 40 = .ok (.iaload, 1) := by decide +kernel
theorem dX5_findWedding_41 : decode cX5_findWedding 41 = .ok (.goto 4, 3) := by decide +kernel
theorem dX5_findWedding_44 : decode cX5_findWedding 44 = .ok (.iconst (-1), 1) := by decide +kernel
theorem dX5_findWedding_45 : decode cX5_findWedding 45 = .ok (.ireturn, 1) := by decide +kernel
theorem dX5_passNight_0 : decode cX5_passNight 0 = .ok (.aload_n 1, 1) := by decide +kernel
theorem dX5_passNight_1 : decode cX5_passNight 1 = .ok (.getfield 59, 3) := by decide +kernel
theorem dX5_passNight_4 : decode cX5_passNight 4 = .ok (.istore_n 2, 1) := by decide +kernel
theorem dX5_passNight_5 : decode cX5_passNight 5 = .ok (.iconst 0, 1) := by decide +kernel
theorem dX5_passNight_6 : decode cX5_passNight 6 = .ok (.istore_n 3, 1) := by decide +kernel
theorem dX5_passNight_7 : decode cX5_passNight 7 = .ok (.iconst 0, 1) := by decide +kernel
theorem dX5_passNight_8 : decode cX5_passNight 8 = .ok (.istore 4, 2) := by decide +kernel
theorem dX5_passNight_10 : decode cX5_passNight 10 = .ok (.iload 4, 2) := by decide +kernel
theorem dX5_passNight_12 : decode cX5_passNight 12 = .ok (.aload_n 0, 1) := by decide +kernel
theorem dX5_passNight_13 : decode cX5_passNight 13 = .ok (.getfield 15, 3) := by decide +kernel
theorem dX5_passNight_16 : decode cX5_passNight 16 = .ok (.getfield 62, 3) := by decide +kernel
theorem dX5_passNight_19 : decode cX5_passNight 19 = .ok (.if_icmp .ge 23, 3) := by decide +kernel
theorem dX5_passNight_22 : decode cX5_passNight 22 = .ok (.aload_n 0, 1) := by decide +kernel
theorem dX5_passNight_23 : decode cX5_passNight 23 = .ok (.aload_n 1, 1) := by decide +kernel
theorem dX5_passNight_24 : decode cX5_passNight 24 = .ok (.iload 4, 2) := by decide +kernel
theorem dX5_passNight_26 : decode cX5_passNight 26 = .ok (.aload_n 0, 1) := by decide +kernel
theorem dX5_passNight_27 : decode cX5_passNight 27 = .ok (.getfield 24, 3) := by decide +kernel
theorem dX5_passNight_30 : decode cX5_passNight 30 = .ok (.iload 4, 2) := by decide +kernel
theorem dX5_passNight_32 : decode cX5_passNight 32 = .ok (.iaload, 1) := by decide +kernel
theorem dX5_passNight_33 : decode cX5_passNight 33 = .ok (.invokevirtual 65, 3) := by decide +kernel
theorem dX5_passNight_36 : decode cX5_passNight 36 = .ok (.iinc 4 1, 3) := by decide +kernel
theorem dX5_passNight_39 : decode cX5_passNight 39 = .ok (.goto (-29), 3) := by decide +kernel
theorem dX5_passNight_42 : decode cX5_passNight 42 = .ok (.iconst 0, 1) := by decide +kernel
theorem dX5_passNight_43 : decode cX5_passNight 43 = .ok (.istore 4, 2) := by decide +kernel
theorem dX5_passNight_45 : decode cX5_passNight 45 = .ok (.iload 4, 2) := by decide +kernel
theorem dX5_passNight_47 : decode cX5_passNight 47 = .ok (.aload_n 0, 1) := by decide +kernel
theorem dX5_passNight_48 : decode cX5_passNight 48 = .ok (.getfield 15, 3) := by decide +kernel
theorem dX5_passNight_51 : decode cX5_passNight 51 = .ok (.getfield 62, 3) := by decide +kernel
theorem dX5_passNight_54 : decode cX5_passNight 54 = .ok (.iconst 3, 1) := by decide +kernel
theorem dX5_passNight_55 : decode cX5_passNight 55 = .ok (.imul, 1) := by decide +kernel
theorem dX5_passNight_56 : decode cX5_passNight 56 = .ok (.if_icmp .ge 48, 3) := by decide +kernel
theorem dX5_passNight_59 : decode cX5_passNight 59 = .ok (.iload_n 3, 1) := by decide +kernel
theorem dX5_passNight_60 : decode cX5_passNight 60 = .ok (.aload_n 1, 1) := by decide +kernel
theorem dX5_passNight_61 : decode cX5_passNight 61 = .ok (.getfield 69, 3) := by decide +kernel
theorem dX5_passNight_64 : decode cX5_passNight 64 = .ok (.iload 4, 2) := by decide +kernel
theorem dX5_passNight_66 : decode cX5_passNight 66 = .ok (.iaload, 1) := by decide +kernel
theorem dX5_passNight_67 : decode cX5_passNight 67 = .ok (.aload_n 0, 1) := by decide +kernel
theorem dX5_passNight_68 : decode cX5_passNight 68 = .ok (.getfield 9, 3) := by decide +kernel
theorem dX5_passNight_71 : decode cX5_passNight 71 = .ok (.iload 4, 2) := by decide +kernel
theorem dX5_passNight_73 : decode cX5_passNight 73 = .ok (.iaload, 1) := by decide +kernel
theorem dX5_passNight_74 : decode cX5_passNight 74 = .ok (.if_icmp .eq 7, 3) := by decide +kernel
theorem dX5_passNight_77 : decode cX5_passNight 77 = .ok (.iconst 1, 1) := by decide +kernel
theorem dX5_passNight_78 : decode cX5_passNight 78 = .ok (.goto 4, 3) := by decide +kernel
theorem dX5_passNight_81 : decode cX5_passNight 81 = .ok (.iconst 0, 1) := by decide +kernel
theorem dX5_passNight_82 : decode cX5_passNight 82 = .ok (.ior, 1) := by decide +kernel
theorem dX5_passNight_83 : decode cX5_passNight 83 = .ok (.istore_n 3, 1) := by decide +kernel
theorem dX5_passNight_84 : decode cX5_passNight 84 = .ok (.aload_n 1, 1) := by decide +kernel
theorem dX5_passNight_85 : decode cX5_passNight 85 = .ok (.getfield 69, 3) := by decide +kernel
theorem dX5_passNight_88 : decode cX5_passNight 88 = .ok (.iload 4, 2) := by decide +kernel
theorem dX5_passNight_90 : decode cX5_passNight 90 = .ok (.aload_n 0, 1) := by decide +kernel
theorem dX5_passNight_91 : decode cX5_passNight 91 = .ok (.getfield 9, 3) := by decide +kernel
theorem dX5_passNight_94 : decode cX5_passNight 94 = .ok (.iload 4, 2) := by decide +kernel
theorem dX5_passNight_96 : decode cX5_passNight 96 = .ok (.iaload, 1) := by decide +kernel
theorem dX5_passNight_97 : decode cX5_passNight 97 = .ok (.iastore, 1) := by decide +kernel
theorem dX5_passNight_98 : decode cX5_passNight 98 = .ok (.iinc 4 1, 3) := by decide +kernel
theorem dX5_passNight_101 : decode cX5_passNight 101 = .ok (.goto (-56), 3) := by decide +kernel
theorem dX5_passNight_104 : decode cX5_passNight 104 = .ok (.aload_n 1, 1) := by decide +kernel
theorem dX5_passNight_105 : decode cX5_passNight 105 = .ok (.aload_n 0, 1) := by decide +kernel
theorem dX5_passNight_106 : decode cX5_passNight 106 = .ok (.getfield 15, 3) := by decide +kernel
theorem dX5_passNight_109 : decode cX5_passNight 109 = .ok (.invokevirtual 72, 3) := by decide +kernel
theorem dX5_passNight_112 : decode cX5_passNight 112 = .ok (.aload_n 1, 1) := by decide +kernel
theorem dX5_passNight_113 : decode cX5_passNight 113 = .ok (.dup, 1) := by decide +kernel
theorem dX5_passNight_114 : decode cX5_passNight 114 = .ok (.getfield 38, 3) := by decide +kernel
theorem dX5_passNight_117 : decode cX5_passNight 117 = .ok (.iconst 1, 1) := by decide +kernel
theorem dX5_passNight_118 : decode cX5_passNight 118 = .ok (.iadd, 1) := by decide +kernel
theorem dX5_passNight_119 : decode cX5_passNight 119 = .ok (.putfield 38, 3) := by decide +kernel
theorem dX5_passNight_122 : decode cX5_passNight 122 = .ok (.iload_n 3, 1) := by decide +kernel
theorem dX5_passNight_123 : decode cX5_passNight 123 = .ok (.ifCond .ne 11, 3) := by decide +kernel
theorem dX5_passNight_126 : decode cX5_passNight 126 = .ok (.aload_n 1, 1) := by decide +kernel
theorem dX5_passNight_127 : decode cX5_passNight 127 = .ok (.getfield 59, 3) := by decide +kernel
theorem dX5_passNight_130 : decode cX5_passNight 130 = .ok (.iload_n 2, 1) := by decide +kernel
theorem dX5_passNight_131 : decode cX5_passNight 131 = .ok (.if_icmp .eq 7, 3) := by decide +kernel
theorem dX5_passNight_134 : decode cX5_passNight 134 = .ok (.iconst 1, 1) := by decide +kernel
theorem dX5_passNight_135 : decode cX5_passNight 135 = .ok (.goto 4, 3) := by decide +kernel
theorem dX5_passNight_138 : decode cX5_passNight 138 = .ok (.iconst 0, 1) := by decide +kernel
theorem dX5_passNight_139 : decode cX5_passNight 139 = .ok (.ireturn, 1) := by decide +kernel
theorem dX5_moveLamp_0 : decode cX5_moveLamp 0 = .ok (.aload_n 1, 1) := by decide +kernel
theorem dX5_moveLamp_1 : decode cX5_moveLamp 1 = .ok (.getfield 69, 3) := by decide +kernel
theorem dX5_moveLamp_4 : decode cX5_moveLamp 4 = .ok (.iload_n 2, 1) := by decide +kernel
theorem dX5_moveLamp_5 : decode cX5_moveLamp 5 = .ok (.iconst 3, 1) := by decide +kernel
theorem dX5_moveLamp_6 : decode cX5_moveLamp 6 = .ok (.imul, 1) := by decide +kernel
theorem dX5_moveLamp_7 : decode cX5_moveLamp 7 = .ok (.aload_n 0, 1) := by decide +kernel
theorem dX5_moveLamp_8 : decode cX5_moveLamp 8 = .ok (.getfield 9, 3) := by decide +kernel
theorem dX5_moveLamp_11 : decode cX5_moveLamp 11 = .ok (.iload_n 2, 1) := by decide +kernel
theorem dX5_moveLamp_12 : decode cX5_moveLamp 12 = .ok (.iconst 3, 1) := by decide +kernel
theorem dX5_moveLamp_13 : decode cX5_moveLamp 13 = .ok (.imul, 1) := by decide +kernel
theorem dX5_moveLamp_14 : decode cX5_moveLamp 14 = .ok (.iconst 3, 1) := by decide +kernel
theorem dX5_moveLamp_15 : decode cX5_moveLamp 15 = .ok (.invokestatic 76, 3) := by decide +kernel
theorem dX5_moveLamp_18 : decode cX5_moveLamp 18 = .ok (.aload_n 1, 1) := by decide +kernel
theorem dX5_moveLamp_19 : decode cX5_moveLamp 19 = .ok (.iload_n 2, 1) := by decide +kernel
theorem dX5_moveLamp_20 : decode cX5_moveLamp 20 = .ok (.invokevirtual 82, 3) := by decide +kernel
theorem dX5_moveLamp_23 : decode cX5_moveLamp 23 = .ok (.ifCond .ne 12, 3) := by decide +kernel
theorem dX5_moveLamp_26 : decode cX5_moveLamp 26 = .ok (.aload_n 0, 1) := by decide +kernel
theorem dX5_moveLamp_27 : decode cX5_moveLamp 27 = .ok (.aload_n 1, 1) := by decide +kernel
theorem dX5_moveLamp_28 : decode cX5_moveLamp 28 = .ok (.iload_n 2, 1) := by decide +kernel
theorem dX5_moveLamp_29 : decode cX5_moveLamp 29 = .ok (.invokevirtual 86, 3) := by decide +kernel
theorem dX5_moveLamp_32 : decode cX5_moveLamp 32 = .ok (.ifCond .eq 4, 3) := by decide +kernel
theorem dX5_moveLamp_35 : decode cX5_moveLamp 35 = .ok (.return_, 1) := by decide +kernel
theorem dX5_moveLamp_36 : decode cX5_moveLamp 36 = .ok (.aload_n 0, 1) := by decide +kernel
theorem dX5_moveLamp_37 : decode cX5_moveLamp 37 = .ok (.aload_n 1, 1) := by decide +kernel
theorem dX5_moveLamp_38 : decode cX5_moveLamp 38 = .ok (.iload_n 2, 1) := by decide +kernel
theorem dX5_moveLamp_39 : decode cX5_moveLamp 39 = .ok (.iload_n 3, 1) := by decide +kernel
theorem dX5_moveLamp_40 : decode cX5_moveLamp 40 = .ok (.invokevirtual 90, 3) := by decide +kernel
theorem dX5_moveLamp_43 : decode cX5_moveLamp 43 = .ok (.istore 4, 2) := by decide +kernel
theorem dX5_moveLamp_45 : decode cX5_moveLamp 45 = .ok (.iload 4, 2) := by decide +kernel
theorem dX5_moveLamp_47 : decode cX5_moveLamp 47 = .ok (.iconst (-1), 1) := by decide +kernel
theorem dX5_moveLamp_48 : decode cX5_moveLamp 48 = .ok (.if_icmp .eq 11, 3) := by decide +kernel
theorem dX5_moveLamp_51 : decode cX5_moveLamp 51 = .ok (.aload_n 0, 1) := by decide +kernel
theorem dX5_moveLamp_52 : decode cX5_moveLamp 52 = .ok (.aload_n 1, 1) := by decide +kernel
theorem dX5_moveLamp_53 : decode cX5_moveLamp 53 = .ok (.iload_n 2, 1) := by decide +kernel
theorem dX5_moveLamp_54 : decode cX5_moveLamp 54 = .ok (.iload 4, 2) := by decide +kernel
theorem dX5_moveLamp_56 : decode cX5_moveLamp 56 = .ok (.invokevirtual 94, 3) := by decide +kernel
theorem dX5_moveLamp_59 : decode cX5_moveLamp 59 = .ok (.aload_n 0, 1) := by decide +kernel
theorem dX5_moveLamp_60 : decode cX5_moveLamp 60 = .ok (.getfield 15, 3) := by decide +kernel
theorem dX5_moveLamp_63 : decode cX5_moveLamp 63 = .ok (.getfield 97, 3) := by decide +kernel
theorem dX5_moveLamp_66 : decode cX5_moveLamp 66 = .ok (.iload_n 2, 1) := by decide +kernel
theorem dX5_moveLamp_67 : decode cX5_moveLamp 67 = .ok (.iaload, 1) := by decide +kernel
theorem dX5_moveLamp_68 : decode cX5_moveLamp 68 = .ok (.iconst 3, 1) := by decide +kernel
theorem dX5_moveLamp_69 : decode cX5_moveLamp 69 = .ok (.if_icmp .ne 8, 3) := by decide +kernel
theorem dX5_moveLamp_72 : decode cX5_moveLamp 72 = .ok (.aload_n 0, 1) := by decide +kernel
theorem dX5_moveLamp_73 : decode cX5_moveLamp 73 = .ok (.iload_n 2, 1) := by decide +kernel
theorem dX5_moveLamp_74 : decode cX5_moveLamp 74 = .ok (.invokevirtual 100, 3) := by decide +kernel
theorem dX5_moveLamp_77 : decode cX5_moveLamp 77 = .ok (.return_, 1) := by decide +kernel
theorem dX5_isHeld_0 : decode cX5_isHeld 0 = .ok (.aload_n 0, 1) := by decide +kernel
theorem dX5_isHeld_1 : decode cX5_isHeld 1 = .ok (.getfield 15, 3) := by decide +kernel
theorem dX5_isHeld_4 : decode cX5_isHeld 4 = .ok (.getfield 97, 3) := by decide +kernel
theorem dX5_isHeld_7 : decode cX5_isHeld 7 = .ok (.iload_n 2, 1) := by decide +kernel
theorem dX5_isHeld_8 : decode cX5_isHeld 8 = .ok (.iaload, 1) := by decide +kernel
theorem dX5_isHeld_9 : decode cX5_isHeld 9 = .ok (.istore_n 3, 1) := by decide +kernel
theorem dX5_isHeld_10 : decode cX5_isHeld 10 = .ok (.iload_n 3, 1) := by decide +kernel
theorem dX5_isHeld_11 : decode cX5_isHeld 11 = .ok (.iconst 4, 1) := by decide +kernel
theorem dX5_isHeld_12 : decode cX5_isHeld 12 = .ok (.if_icmp .eq 17, 3) := by decide +kernel
theorem dX5_isHeld_15 : decode cX5_isHeld 15 = .ok (.iload_n 3, 1) := by decide +kernel
theorem dX5_isHeld_16 : decode cX5_isHeld 16 = .ok (.iconst 1, 1) := by decide +kernel
theorem dX5_isHeld_17 : decode cX5_isHeld 17 = .ok (.if_icmp .ne 14, 3) := by decide +kernel
theorem dX5_isHeld_20 : decode cX5_isHeld 20 = .ok (.aload_n 1, 1) := by decide +kernel
theorem dX5_isHeld_21 : decode cX5_isHeld 21 = .ok (.getfield 38, 3) := by decide +kernel
theorem dX5_isHeld_24 : decode cX5_isHeld 24 = .ok (.iconst 2, 1) := by decide +kernel
theorem dX5_isHeld_25 : decode cX5_isHeld 25 = .ok (.irem, 1) := by decide +kernel
theorem dX5_isHeld_26 : decode cX5_isHeld 26 = .ok (.ifCond .ne 5, 3) := by decide +kernel
theorem dX5_isHeld_29 : decode cX5_isHeld 29 = .ok (.iconst 1, 1) := by decide +kernel
theorem dX5_isHeld_30 : decode cX5_isHeld 30 = .ok (.ireturn, 1) := by decide +kernel
theorem dX5_isHeld_31 : decode cX5_isHeld 31 = .ok (.iconst 0, 1) := by decide +kernel
theorem dX5_isHeld_32 : decode cX5_isHeld 32 = .ok (.istore 4, 2) := by decide +kernel
theorem dX5_isHeld_34 : decode cX5_isHeld 34 = .ok (.iload 4, 2) := by decide +kernel
theorem dX5_isHeld_36 : decode cX5_isHeld 36 = .ok (.aload_n 0, 1) := by decide +kernel
theorem dX5_isHeld_37 : decode cX5_isHeld 37 = .ok (.getfield 15, 3) := by decide +kernel
theorem dX5_isHeld_40 : decode cX5_isHeld 40 = .ok (.getfield 62, 3) := by decide +kernel
theorem dX5_isHeld_43 : decode cX5_isHeld 43 = .ok (.if_icmp .ge 51, 3) := by decide +kernel
theorem dX5_isHeld_46 : decode cX5_isHeld 46 = .ok (.aload_n 0, 1) := by decide +kernel
theorem dX5_isHeld_47 : decode cX5_isHeld 47 = .ok (.getfield 15, 3) := by decide +kernel
theorem dX5_isHeld_50 : decode cX5_isHeld 50 = .ok (.getfield 97, 3) := by decide +kernel
theorem dX5_isHeld_53 : decode cX5_isHeld 53 = .ok (.iload 4, 2) := by decide +kernel
theorem dX5_isHeld_55 : decode cX5_isHeld 55 = .ok (.iaload, 1) := by decide +kernel
theorem dX5_isHeld_56 : decode cX5_isHeld 56 = .ok (.iconst 4, 1) := by decide +kernel
theorem dX5_isHeld_57 : decode cX5_isHeld 57 = .ok (.if_icmp .ne 31, 3) := by decide +kernel
theorem dX5_isHeld_60 : decode cX5_isHeld 60 = .ok (.aload_n 1, 1) := by decide +kernel
theorem dX5_isHeld_61 : decode cX5_isHeld 61 = .ok (.iload 4, 2) := by decide +kernel
theorem dX5_isHeld_63 : decode cX5_isHeld 63 = .ok (.invokevirtual 82, 3) := by decide +kernel
theorem dX5_isHeld_66 : decode cX5_isHeld 66 = .ok (.ifCond .ne 22, 3) := by decide +kernel
theorem dX5_isHeld_69 : decode cX5_isHeld 69 = .ok (.aload_n 1, 1) := by decide +kernel
theorem dX5_isHeld_70 : decode cX5_isHeld 70 = .ok (.iload_n 2, 1) := by decide +kernel
theorem dX5_isHeld_71 : decode cX5_isHeld 71 = .ok (.iload 4, 2) := by decide +kernel
theorem dX5_isHeld_73 : decode cX5_isHeld 73 = .ok (.invokevirtual 104, 3) := by decide +kernel
theorem dX5_isHeld_76 : decode cX5_isHeld 76 = .ok (.aload_n 0, 1) := by decide +kernel
theorem dX5_isHeld_77 : decode cX5_isHeld 77 = .ok (.getfield 15, 3) := by decide +kernel
theorem dX5_isHeld_80 : decode cX5_isHeld 80 = .ok (.getfield 108, 3) := by decide +kernel
theorem dX5_isHeld_83 : decode cX5_isHeld 83 = .ok (.if_icmp .gt 5, 3) := by decide +kernel
theorem dX5_isHeld_86 : decode cX5_isHeld 86 = .ok (.iconst 1, 1) := by decide +kernel
theorem dX5_isHeld_87 : decode cX5_isHeld 87 = .ok (.ireturn, 1) := by decide +kernel
theorem dX5_isHeld_88 : decode cX5_isHeld 88 = .ok (.iinc 4 1, 3) := by decide +kernel
theorem dX5_isHeld_91 : decode cX5_isHeld 91 = .ok (.goto (-57), 3) := by decide +kernel
theorem dX5_isHeld_94 : decode cX5_isHeld 94 = .ok (.iconst 0, 1) := by decide +kernel
theorem dX5_isHeld_95 : decode cX5_isHeld 95 = .ok (.ireturn, 1) := by decide +kernel
theorem dX5_findGoal_0 : decode cX5_findGoal 0 = .ok (.iload_n 3, 1) := by decide +kernel
theorem dX5_findGoal_1 : decode cX5_findGoal 1 = .ok (.iconst (-1), 1) := by decide +kernel
theorem dX5_findGoal_2 : decode cX5_findGoal 2 = .ok (.if_icmp .eq 11, 3) := by decide +kernel
theorem dX5_findGoal_5 : decode cX5_findGoal 5 = .ok (.aload_n 1, 1) := by decide +kernel
theorem dX5_findGoal_6 : decode cX5_findGoal 6 = .ok (.iload_n 3, 1) := by decide +kernel
theorem dX5_findGoal_7 : decode cX5_findGoal 7 = .ok (.invokevirtual 82, 3) := by decide +kernel
theorem dX5_findGoal_10 : decode cX5_findGoal 10 = .ok (.ifCond .eq 5, 3) := by decide +kernel
theorem dX5_findGoal_13 : decode cX5_findGoal 13 = .ok (.iconst (-1), 1) := by decide +kernel
theorem dX5_findGoal_14 : decode cX5_findGoal 14 = .ok (.ireturn, 1) := by decide +kernel
theorem dX5_findGoal_15 : decode cX5_findGoal 15 = .ok (.aload_n 0, 1) := by decide +kernel
theorem dX5_findGoal_16 : decode cX5_findGoal 16 = .ok (.getfield 15, 3) := by decide +kernel
theorem dX5_findGoal_19 : decode cX5_findGoal 19 = .ok (.aload_n 1, 1) := by decide +kernel
theorem dX5_findGoal_20 : decode cX5_findGoal 20 = .ok (.getfield 38, 3) := by decide +kernel
theorem dX5_findGoal_23 : decode cX5_findGoal 23 = .ok (.iload_n 2, 1) := by decide +kernel
theorem dX5_findGoal_24 : decode cX5_findGoal 24 = .ok (.iload_n 3, 1) := by decide +kernel
theorem dX5_findGoal_25 : decode cX5_findGoal 25 = .ok (.invokevirtual 111, 3) := by decide +kernel
theorem dX5_findGoal_28 : decode cX5_findGoal 28 = .ok (.ifCond .ne 5, 3) := by decide +kernel
theorem dX5_findGoal_31 : decode cX5_findGoal 31 = .ok (.iload_n 3, 1) := by decide +kernel
theorem dX5_findGoal_32 : decode cX5_findGoal 32 = .ok (.ireturn, 1) := by decide +kernel
theorem dX5_findGoal_33 : decode cX5_findGoal 33 = .ok (.iconst (-1), 1) := by decide +kernel
theorem dX5_findGoal_34 : decode cX5_findGoal 34 = .ok (.istore 4, 2) := by decide +kernel
theorem dX5_findGoal_36 : decode cX5_findGoal 36 = .ok (.bipush 31, 2) := by decide +kernel
theorem dX5_findGoal_38 : decode cX5_findGoal 38 = .ok (.istore 5, 2) := by decide +kernel
theorem dX5_findGoal_40 : decode cX5_findGoal 40 = .ok (.iconst 0, 1) := by decide +kernel
theorem dX5_findGoal_41 : decode cX5_findGoal 41 = .ok (.istore 6, 2) := by decide +kernel
theorem dX5_findGoal_43 : decode cX5_findGoal 43 = .ok (.iload 6, 2) := by decide +kernel
theorem dX5_findGoal_45 : decode cX5_findGoal 45 = .ok (.aload_n 0, 1) := by decide +kernel
theorem dX5_findGoal_46 : decode cX5_findGoal 46 = .ok (.getfield 15, 3) := by decide +kernel
theorem dX5_findGoal_49 : decode cX5_findGoal 49 = .ok (.getfield 62, 3) := by decide +kernel
theorem dX5_findGoal_52 : decode cX5_findGoal 52 = .ok (.if_icmp .ge 66, 3) := by decide +kernel
theorem dX5_findGoal_55 : decode cX5_findGoal 55 = .ok (.iload 6, 2) := by decide +kernel
theorem dX5_findGoal_57 : decode cX5_findGoal 57 = .ok (.iload_n 2, 1) := by decide +kernel
theorem dX5_findGoal_58 : decode cX5_findGoal 58 = .ok (.if_icmp .eq 54, 3) := by decide +kernel
theorem dX5_findGoal_61 : decode cX5_findGoal 61 = .ok (.aload_n 1, 1) := by decide +kernel
theorem dX5_findGoal_62 : decode cX5_findGoal 62 = .ok (.iload 6, 2) := by decide +kernel
theorem dX5_findGoal_64 : decode cX5_findGoal 64 = .ok (.invokevirtual 82, 3) := by decide +kernel
theorem dX5_findGoal_67 : decode cX5_findGoal 67 = .ok (.ifCond .ne 45, 3) := by decide +kernel
theorem dX5_findGoal_70 : decode cX5_findGoal 70 = .ok (.aload_n 1, 1) := by decide +kernel
theorem dX5_findGoal_71 : decode cX5_findGoal 71 = .ok (.iload_n 2, 1) := by decide +kernel
theorem dX5_findGoal_72 : decode cX5_findGoal 72 = .ok (.iload 6, 2) := by decide +kernel
theorem dX5_findGoal_74 : decode cX5_findGoal 74 = .ok (.invokevirtual 104, 3) := by decide +kernel
theorem dX5_findGoal_77 : decode cX5_findGoal 77 = .ok (.iload 5, 2) := by decide +kernel
theorem dX5_findGoal_79 : decode cX5_findGoal 79 = .ok (.if_icmp .ge 33, 3) := by decide +kernel
end
section
theorem dX5_findGoal_82 : decode cX5_findGoal 82 = .ok (.aload_n 0, 1) := by decide +kernel
theorem dX5_findGoal_83 : decode cX5_findGoal 83 = .ok (.getfield 15, 3) := by decide +kernel
theorem dX5_findGoal_86 : decode cX5_findGoal 86 = .ok (.aload_n 1, 1) := by decide +kernel
theorem dX5_findGoal_87 : decode cX5_findGoal 87 = .ok (.getfield 38, 3) := by decide +kernel
theorem dX5_findGoal_90 : decode cX5_findGoal 90 = .ok (.iload_n 2, 1) := by decide +kernel
theorem dX5_findGoal_91 : decode cX5_findGoal 91 = .ok (.iload 6, 2) := by decide +kernel
theorem dX5_findGoal_93 : decode cX5_findGoal 93 = .ok (.invokevirtual 111, 3) := by decide +kernel
theorem dX5_findGoal_96 : decode cX5_findGoal 96 = .ok (.ifCond .ne 16, 3) := by decide +kernel
theorem dX5_findGoal_99 : decode cX5_findGoal 99 = .ok (.iload 6, 2) := by decide +kernel
theorem dX5_findGoal_101 : decode cX5_findGoal 101 = .ok (.istore 4, 2) := by decide +kernel
theorem dX5_findGoal_103 : decode cX5_findGoal 103 = .ok (.aload_n 1, 1) := by decide +kernel
theorem dX5_findGoal_104 : decode cX5_findGoal 104 = .ok (.iload_n 2, 1) := by decide +kernel
theorem dX5_findGoal_105 : decode cX5_findGoal 105 = .ok (.iload 6, 2) := by decide +kernel
theorem dX5_findGoal_107 : decode cX5_findGoal 107 = .ok (.invokevirtual 104, 3) := by decide +kernel
theorem dX5_findGoal_110 : decode cX5_findGoal 110 = .ok (.istore 5, 2) := by decide +kernel
theorem dX5_findGoal_112 : decode cX5_findGoal 112 = .ok (.iinc 6 1, 3) := by decide +kernel
theorem dX5_findGoal_115 : decode cX5_findGoal 115 = .ok (.goto (-72), 3) := by decide +kernel
theorem dX5_findGoal_118 : decode cX5_findGoal 118 = .ok (.iload 4, 2) := by decide +kernel
theorem dX5_findGoal_120 : decode cX5_findGoal 120 = .ok (.ireturn, 1) := by decide +kernel
theorem dX5_goTowards_0 : decode cX5_goTowards 0 = .ok (.iload_n 2, 1) := by decide +kernel
theorem dX5_goTowards_1 : decode cX5_goTowards 1 = .ok (.iconst 3, 1) := by decide +kernel
theorem dX5_goTowards_2 : decode cX5_goTowards 2 = .ok (.imul, 1) := by decide +kernel
theorem dX5_goTowards_3 : decode cX5_goTowards 3 = .ok (.istore 4, 2) := by decide +kernel
theorem dX5_goTowards_5 : decode cX5_goTowards 5 = .ok (.aload_n 0, 1) := by decide +kernel
theorem dX5_goTowards_6 : decode cX5_goTowards 6 = .ok (.getfield 15, 3) := by decide +kernel
theorem dX5_goTowards_9 : decode cX5_goTowards 9 = .ok (.getfield 97, 3) := by decide +kernel
theorem dX5_goTowards_12 : decode cX5_goTowards 12 = .ok (.iload_n 2, 1) := by decide +kernel
theorem dX5_goTowards_13 : decode cX5_goTowards 13 = .ok (.iaload, 1) := by decide +kernel
theorem dX5_goTowards_14 : decode cX5_goTowards 14 = .ok (.iconst 2, 1) := by decide +kernel
theorem dX5_goTowards_15 : decode cX5_goTowards 15 = .ok (.if_icmp .ne 12, 3) := by decide +kernel
theorem dX5_goTowards_18 : decode cX5_goTowards 18 = .ok (.iconst 2, 1) := by decide +kernel
theorem dX5_goTowards_19 : decode cX5_goTowards 19 = .ok (.aload_n 0, 1) := by decide +kernel
theorem dX5_goTowards_20 : decode cX5_goTowards 20 = .ok (.getfield 29, 3) := by decide +kernel
theorem dX5_goTowards_23 : decode cX5_goTowards 23 = .ok (.imul, 1) := by decide +kernel
theorem dX5_goTowards_24 : decode cX5_goTowards 24 = .ok (.goto 7, 3) := by decide +kernel
theorem dX5_goTowards_27 : decode cX5_goTowards 27 = .ok (.aload_n 0, 1) := by decide +kernel
theorem dX5_goTowards_28 : decode cX5_goTowards 28 = .ok (.getfield 29, 3) := by decide +kernel
theorem dX5_goTowards_31 : decode cX5_goTowards 31 = .ok (.istore 5, 2) := by decide +kernel
theorem dX5_goTowards_33 : decode cX5_goTowards 33 = .ok (.iconst 0, 1) := by decide +kernel
theorem dX5_goTowards_34 : decode cX5_goTowards 34 = .ok (.istore 6, 2) := by decide +kernel
theorem dX5_goTowards_36 : decode cX5_goTowards 36 = .ok (.iload 6, 2) := by decide +kernel
theorem dX5_goTowards_38 : decode cX5_goTowards 38 = .ok (.iload 5, 2) := by decide +kernel
theorem dX5_goTowards_40 : decode cX5_goTowards 40 = .ok (.if_icmp .ge 165, 3) := by decide +kernel
theorem dX5_goTowards_43 : decode cX5_goTowards 43 = .ok (.iconst 0, 1) := by decide +kernel
theorem dX5_goTowards_44 : decode cX5_goTowards 44 = .ok (.istore 7, 2) := by decide +kernel
theorem dX5_goTowards_46 : decode cX5_goTowards 46 = .ok (.iconst 0, 1) := by decide +kernel
theorem dX5_goTowards_47 : decode cX5_goTowards 47 = .ok (.istore 8, 2) := by decide +kernel
theorem dX5_goTowards_49 : decode cX5_goTowards 49 = .ok (.iconst 1, 1) := by decide +kernel
theorem dX5_goTowards_50 : decode cX5_goTowards 50 = .ok (.istore 9, 2) := by decide +kernel
theorem dX5_goTowards_52 : decode cX5_goTowards 52 = .ok (.iload 9, 2) := by decide +kernel
theorem dX5_goTowards_54 : decode cX5_goTowards 54 = .ok (.iconst 3, 1) := by decide +kernel
theorem dX5_goTowards_55 : decode cX5_goTowards 55 = .ok (.if_icmp .ge 95, 3) := by decide +kernel
theorem dX5_goTowards_58 : decode cX5_goTowards 58 = .ok (.aload_n 0, 1) := by decide +kernel
theorem dX5_goTowards_59 : decode cX5_goTowards 59 = .ok (.getfield 9, 3) := by decide +kernel
theorem dX5_goTowards_62 : decode cX5_goTowards 62 = .ok (.iload 4, 2) := by decide +kernel
theorem dX5_goTowards_64 : decode cX5_goTowards 64 = .ok (.iload 9, 2) := by decide +kernel
theorem dX5_goTowards_66 : decode cX5_goTowards 66 = .ok (.iadd, 1) := by decide +kernel
theorem dX5_goTowards_67 : decode cX5_goTowards 67 = .ok (.iaload, 1) := by decide +kernel
theorem dX5_goTowards_68 : decode cX5_goTowards 68 = .ok (.aload_n 1, 1) := by decide +kernel
theorem dX5_goTowards_69 : decode cX5_goTowards 69 = .ok (.getfield 69, 3) := by decide +kernel
theorem dX5_goTowards_72 : decode cX5_goTowards 72 = .ok (.iload_n 3, 1) := by decide +kernel
theorem dX5_goTowards_73 : decode cX5_goTowards 73 = .ok (.iconst 3, 1) := by decide +kernel
theorem dX5_goTowards_74 : decode cX5_goTowards 74 = .ok (.imul, 1) := by decide +kernel
theorem dX5_goTowards_75 : decode cX5_goTowards 75 = .ok (.iload 9, 2) := by decide +kernel
theorem dX5_goTowards_77 : decode cX5_goTowards 77 = .ok (.iadd, 1) := by decide +kernel
theorem dX5_goTowards_78 : decode cX5_goTowards 78 = .ok (.iaload, 1) := by decide +kernel
theorem dX5_goTowards_79 : decode cX5_goTowards 79 = .ok (.isub, 1) := by decide +kernel
theorem dX5_goTowards_80 : decode cX5_goTowards 80 = .ok (.istore 10, 2) := by decide +kernel
theorem dX5_goTowards_82 : decode cX5_goTowards 82 = .ok (.iload 10, 2) := by decide +kernel
theorem dX5_goTowards_84 : decode cX5_goTowards 84 = .ok (.aload_n 0, 1) := by decide +kernel
theorem dX5_goTowards_85 : decode cX5_goTowards 85 = .ok (.getfield 9, 3) := by decide +kernel
theorem dX5_goTowards_88 : decode cX5_goTowards 88 = .ok (.iload 4, 2) := by decide +kernel
theorem dX5_goTowards_90 : decode cX5_goTowards 90 = .ok (.iload 7, 2) := by decide +kernel
theorem dX5_goTowards_92 : decode cX5_goTowards 92 = .ok (.iadd, 1) := by decide +kernel
theorem dX5_goTowards_93 : decode cX5_goTowards 93 = .ok (.iaload, 1) := by decide +kernel
theorem dX5_goTowards_94 : decode cX5_goTowards 94 = .ok (.aload_n 1, 1) := by decide +kernel
theorem dX5_goTowards_95 : decode cX5_goTowards 95 = .ok (.getfield 69, 3) := by decide +kernel
theorem dX5_goTowards_98 : decode cX5_goTowards 98 = .ok (.iload_n 3, 1) := by decide +kernel
theorem dX5_goTowards_99 : decode cX5_goTowards 99 = .ok (.iconst 3, 1) := by decide +kernel
theorem dX5_goTowards_100 : decode cX5_goTowards 100 = .ok (.imul, 1) := by decide +kernel
theorem dX5_goTowards_101 : decode cX5_goTowards 101 = .ok (.iload 7, 2) := by decide +kernel
theorem dX5_goTowards_103 : decode cX5_goTowards 103 = .ok (.iadd, 1) := by decide +kernel
theorem dX5_goTowards_104 : decode cX5_goTowards 104 = .ok (.iaload, 1) := by decide +kernel
theorem dX5_goTowards_105 : decode cX5_goTowards 105 = .ok (.isub, 1) := by decide +kernel
theorem dX5_goTowards_106 : decode cX5_goTowards 106 = .ok (.if_icmp .le 7, 3) := by decide +kernel
theorem dX5_goTowards_109 : decode cX5_goTowards 109 = .ok (.iload 9, 2) := by decide +kernel
theorem dX5_goTowards_111 : decode cX5_goTowards 111 = .ok (.istore 7, 2) := by decide +kernel
theorem dX5_goTowards_113 : decode cX5_goTowards 113 = .ok (.iload 10, 2) := by decide +kernel
theorem dX5_goTowards_115 : decode cX5_goTowards 115 = .ok (.aload_n 0, 1) := by decide +kernel
theorem dX5_goTowards_116 : decode cX5_goTowards 116 = .ok (.getfield 9, 3) := by decide +kernel
theorem dX5_goTowards_119 : decode cX5_goTowards 119 = .ok (.iload 4, 2) := by decide +kernel
theorem dX5_goTowards_121 : decode cX5_goTowards 121 = .ok (.iload 8, 2) := by decide +kernel
theorem dX5_goTowards_123 : decode cX5_goTowards 123 = .ok (.iadd, 1) := by decide +kernel
theorem dX5_goTowards_124 : decode cX5_goTowards 124 = .ok (.iaload, 1) := by decide +kernel
theorem dX5_goTowards_125 : decode cX5_goTowards 125 = .ok (.aload_n 1, 1) := by decide +kernel
theorem dX5_goTowards_126 : decode cX5_goTowards 126 = .ok (.getfield 69, 3) := by decide +kernel
theorem dX5_goTowards_129 : decode cX5_goTowards 129 = .ok (.iload_n 3, 1) := by decide +kernel
theorem dX5_goTowards_130 : decode cX5_goTowards 130 = .ok (.iconst 3, 1) := by decide +kernel
theorem dX5_goTowards_131 : decode cX5_goTowards 131 = .ok (.imul, 1) := by decide +kernel
theorem dX5_goTowards_132 : decode cX5_goTowards 132 = .ok (.iload 8, 2) := by decide +kernel
theorem dX5_goTowards_134 : decode cX5_goTowards 134 = .ok (.iadd, 1) := by decide +kernel
theorem dX5_goTowards_135 : decode cX5_goTowards 135 = .ok (.iaload, 1) := by decide +kernel
theorem dX5_goTowards_136 : decode cX5_goTowards 136 = .ok (.isub, 1) := by decide +kernel
theorem dX5_goTowards_137 : decode cX5_goTowards 137 = .ok (.if_icmp .ge 7, 3) := by decide +kernel
theorem dX5_goTowards_140 : decode cX5_goTowards 140 = .ok (.iload 9, 2) := by decide +kernel
theorem dX5_goTowards_142 : decode cX5_goTowards 142 = .ok (.istore 8, 2) := by decide +kernel
theorem dX5_goTowards_144 : decode cX5_goTowards 144 = .ok (.iinc 9 1, 3) := by decide +kernel
theorem dX5_goTowards_147 : decode cX5_goTowards 147 = .ok (.goto (-95), 3) := by decide +kernel
theorem dX5_goTowards_150 : decode cX5_goTowards 150 = .ok (.iload 7, 2) := by decide +kernel
theorem dX5_goTowards_152 : decode cX5_goTowards 152 = .ok (.iload 8, 2) := by decide +kernel
theorem dX5_goTowards_154 : decode cX5_goTowards 154 = .ok (.if_icmp .eq 16, 3) := by decide +kernel
theorem dX5_goTowards_157 : decode cX5_goTowards 157 = .ok (.aload_n 0, 1) := by decide +kernel
theorem dX5_goTowards_158 : decode cX5_goTowards 158 = .ok (.getfield 30, 3) := by decide +kernel
theorem dX5_goTowards_161 : decode cX5_goTowards 161 = .ok (.ifCond .eq 10, 3) := by decide +kernel
theorem dX5_goTowards_164 : decode cX5_goTowards 164 = .ok (.iload 8, 2) := by decide +kernel
theorem dX5_goTowards_166 : decode cX5_goTowards 166 = .ok (.iconst 1, 1) := by decide +kernel
theorem dX5_goTowards_167 : decode cX5_goTowards 167 = .ok (.if_icmp .ne 4, 3) := by decide +kernel
theorem dX5_goTowards_170 : decode cX5_goTowards 170 = .ok (.return_, 1) := by decide +kernel
theorem dX5_goTowards_171 : decode cX5_goTowards 171 = .ok (.aload_n 0, 1) := by decide +kernel
theorem dX5_goTowards_172 : decode cX5_goTowards 172 = .ok (.getfield 9, 3) := by decide +kernel
theorem dX5_goTowards_175 : decode cX5_goTowards 175 = .ok (.iload 4, 2) := by decide +kernel
theorem dX5_goTowards_177 : decode cX5_goTowards 177 = .ok (.iload 7, 2) := by decide +kernel
theorem dX5_goTowards_179 : decode cX5_goTowards 179 = .ok (.iadd, 1) := by decide +kernel
theorem dX5_goTowards_180 : decode cX5_goTowards 180 = .ok (.dup2, 1) := by decide +kernel
theorem dX5_goTowards_181 : decode cX5_goTowards 181 = .ok (.iaload, 1) := by decide +kernel
theorem dX5_goTowards_182 : decode cX5_goTowards 182 = .ok (.iconst 1, 1) := by decide +kernel
theorem dX5_goTowards_183 : decode cX5_goTowards 183 = .ok (.isub, 1) := by decide +kernel
theorem dX5_goTowards_184 : decode cX5_goTowards 184 = .ok (.iastore, 1) := by decide +kernel
theorem dX5_goTowards_185 : decode cX5_goTowards 185 = .ok (.aload_n 0, 1) := by decide +kernel
theorem dX5_goTowards_186 : decode cX5_goTowards 186 = .ok (.getfield 9, 3) := by decide +kernel
theorem dX5_goTowards_189 : decode cX5_goTowards 189 = .ok (.iload 4, 2) := by decide +kernel
theorem dX5_goTowards_191 : decode cX5_goTowards 191 = .ok (.iload 8, 2) := by decide +kernel
theorem dX5_goTowards_193 : decode cX5_goTowards 193 = .ok (.iadd, 1) := by decide +kernel
theorem dX5_goTowards_194 : decode cX5_goTowards 194 = .ok (.dup2, 1) := by decide +kernel
theorem dX5_goTowards_195 : decode cX5_goTowards 195 = .ok (.iaload, 1) := by decide +kernel
theorem dX5_goTowards_196 : decode cX5_goTowards 196 = .ok (.iconst 1, 1) := by decide +kernel
theorem dX5_goTowards_197 : decode cX5_goTowards 197 = .ok (.iadd, 1) := by decide +kernel
theorem dX5_goTowards_198 : decode cX5_goTowards 198 = .ok (.iastore, 1) := by decide +kernel
theorem dX5_goTowards_199 : decode cX5_goTowards 199 = .ok (.iinc 6 1, 3) := by decide +kernel
theorem dX5_goTowards_202 : decode cX5_goTowards 202 = .ok (.goto (-166), 3) := by decide +kernel
theorem dX5_goTowards_205 : decode cX5_goTowards 205 = .ok (.return_, 1) := by decide +kernel
theorem dX5_stagger_0 : decode cX5_stagger 0 = .ok (.iload_n 1, 1) := by decide +kernel
theorem dX5_stagger_1 : decode cX5_stagger 1 = .ok (.iconst 3, 1) := by decide +kernel
theorem dX5_stagger_2 : decode cX5_stagger 2 = .ok (.imul, 1) := by decide +kernel
theorem dX5_stagger_3 : decode cX5_stagger 3 = .ok (.istore_n 2, 1) := by decide +kernel
theorem dX5_stagger_4 : decode cX5_stagger 4 = .ok (.iconst 0, 1) := by decide +kernel
theorem dX5_stagger_5 : decode cX5_stagger 5 = .ok (.istore_n 3, 1) := by decide +kernel
theorem dX5_stagger_6 : decode cX5_stagger 6 = .ok (.iconst 1, 1) := by decide +kernel
theorem dX5_stagger_7 : decode cX5_stagger 7 = .ok (.istore 4, 2) := by decide +kernel
theorem dX5_stagger_9 : decode cX5_stagger 9 = .ok (.iload 4, 2) := by decide +kernel
theorem dX5_stagger_11 : decode cX5_stagger 11 = .ok (.iconst 3, 1) := by decide +kernel
theorem dX5_stagger_12 : decode cX5_stagger 12 = .ok (.if_icmp .ge 32, 3) := by decide +kernel
theorem dX5_stagger_15 : decode cX5_stagger 15 = .ok (.aload_n 0, 1) := by decide +kernel
theorem dX5_stagger_16 : decode cX5_stagger 16 = .ok (.getfield 9, 3) := by decide +kernel
theorem dX5_stagger_19 : decode cX5_stagger 19 = .ok (.iload_n 2, 1) := by decide +kernel
theorem dX5_stagger_20 : decode cX5_stagger 20 = .ok (.iload 4, 2) := by decide +kernel
theorem dX5_stagger_22 : decode cX5_stagger 22 = .ok (.iadd, 1) := by decide +kernel
theorem dX5_stagger_23 : decode cX5_stagger 23 = .ok (.iaload, 1) := by decide +kernel
theorem dX5_stagger_24 : decode cX5_stagger 24 = .ok (.aload_n 0, 1) := by decide +kernel
theorem dX5_stagger_25 : decode cX5_stagger 25 = .ok (.getfield 9, 3) := by decide +kernel
theorem dX5_stagger_28 : decode cX5_stagger 28 = .ok (.iload_n 2, 1) := by decide +kernel
theorem dX5_stagger_29 : decode cX5_stagger 29 = .ok (.iload_n 3, 1) := by decide +kernel
theorem dX5_stagger_30 : decode cX5_stagger 30 = .ok (.iadd, 1) := by decide +kernel
theorem dX5_stagger_31 : decode cX5_stagger 31 = .ok (.iaload, 1) := by decide +kernel
theorem dX5_stagger_32 : decode cX5_stagger 32 = .ok (.if_icmp .le 6, 3) := by decide +kernel
theorem dX5_stagger_35 : decode cX5_stagger 35 = .ok (.iload 4, 2) := by decide +kernel
theorem dX5_stagger_37 : decode cX5_stagger 37 = .ok (.istore_n 3, 1) := by decide +kernel
theorem dX5_stagger_38 : decode cX5_stagger 38 = .ok (.iinc 4 1, 3) := by decide +kernel
theorem dX5_stagger_41 : decode cX5_stagger 41 = .ok (.goto (-32), 3) := by decide +kernel
theorem dX5_stagger_44 : decode cX5_stagger 44 = .ok (.iload_n 3, 1) := by decide +kernel
theorem dX5_stagger_45 : decode cX5_stagger 45 = .ok (.iconst 2, 1) := by decide +kernel
theorem dX5_stagger_46 : decode cX5_stagger 46 = .ok (.if_icmp .ne 7, 3) := by decide +kernel
theorem dX5_stagger_49 : decode cX5_stagger 49 = .ok (.iconst 0, 1) := by decide +kernel
theorem dX5_stagger_50 : decode cX5_stagger 50 = .ok (.goto 6, 3) := by decide +kernel
theorem dX5_stagger_53 : decode cX5_stagger 53 = .ok (.iload_n 3, 1) := by decide +kernel
theorem dX5_stagger_54 : decode cX5_stagger 54 = .ok (.iconst 1, 1) := by decide +kernel
theorem dX5_stagger_55 : decode cX5_stagger 55 = .ok (.iadd, 1) := by decide +kernel
theorem dX5_stagger_56 : decode cX5_stagger 56 = .ok (.istore 4, 2) := by decide +kernel
theorem dX5_stagger_58 : decode cX5_stagger 58 = .ok (.aload_n 0, 1) := by decide +kernel
theorem dX5_stagger_59 : decode cX5_stagger 59 = .ok (.getfield 30, 3) := by decide +kernel
theorem dX5_stagger_62 : decode cX5_stagger 62 = .ok (.ifCond .eq 9, 3) := by decide +kernel
theorem dX5_stagger_65 : decode cX5_stagger 65 = .ok (.iload 4, 2) := by decide +kernel
theorem dX5_stagger_67 : decode cX5_stagger 67 = .ok (.iconst 1, 1) := by decide +kernel
theorem dX5_stagger_68 : decode cX5_stagger 68 = .ok (.if_icmp .eq 28, 3) := by decide +kernel
theorem dX5_stagger_71 : decode cX5_stagger 71 = .ok (.aload_n 0, 1) := by decide +kernel
theorem dX5_stagger_72 : decode cX5_stagger 72 = .ok (.getfield 9, 3) := by decide +kernel
theorem dX5_stagger_75 : decode cX5_stagger 75 = .ok (.iload_n 2, 1) := by decide +kernel
theorem dX5_stagger_76 : decode cX5_stagger 76 = .ok (.iload_n 3, 1) := by decide +kernel
theorem dX5_stagger_77 : decode cX5_stagger 77 = .ok (.iadd, 1) := by decide +kernel
theorem dX5_stagger_78 : decode cX5_stagger 78 = .ok (.dup2, 1) := by decide +kernel
theorem dX5_stagger_79 : decode cX5_stagger 79 = .ok (.iaload, 1) := by decide +kernel
theorem dX5_stagger_80 : decode cX5_stagger 80 = .ok (.iconst 1, 1) := by decide +kernel
theorem dX5_stagger_81 : decode cX5_stagger 81 = .ok (.isub, 1) := by decide +kernel
theorem dX5_stagger_82 : decode cX5_stagger 82 = .ok (.iastore, 1) := by decide +kernel
theorem dX5_stagger_83 : decode cX5_stagger 83 = .ok (.aload_n 0, 1) := by decide +kernel
theorem dX5_stagger_84 : decode cX5_stagger 84 = .ok (.getfield 9, 3) := by decide +kernel
theorem dX5_stagger_87 : decode cX5_stagger 87 = .ok (.iload_n 2, 1) := by decide +kernel
theorem dX5_stagger_88 : decode cX5_stagger 88 = .ok (.iload 4, 2) := by decide +kernel
theorem dX5_stagger_90 : decode cX5_stagger 90 = .ok (.iadd, 1) := by decide +kernel
theorem dX5_stagger_91 : decode cX5_stagger 91 = .ok (.dup2, 1) := by decide +kernel
theorem dX5_stagger_92 : decode cX5_stagger 92 = .ok (.iaload, 1) := by decide +kernel
theorem dX5_stagger_93 : decode cX5_stagger 93 = .ok (.iconst 1, 1) := by decide +kernel
theorem dX5_stagger_94 : decode cX5_stagger 94 = .ok (.iadd, 1) := by decide +kernel
theorem dX5_stagger_95 : decode cX5_stagger 95 = .ok (.iastore, 1) := by decide +kernel
theorem dX5_stagger_96 : decode cX5_stagger 96 = .ok (.return_, 1) := by decide +kernel
theorem dX6_init_0 : decode cX6_init 0 = .ok (.aload_n 0, 1) := by decide +kernel
theorem dX6_init_1 : decode cX6_init 1 = .ok (.invokespecial 1, 3) := by decide +kernel
theorem dX6_init_4 : decode cX6_init 4 = .ok (.aload_n 0, 1) := by decide +kernel
theorem dX6_init_5 : decode cX6_init 5 = .ok (.sipush 500, 3) := by decide +kernel
theorem dX6_init_8 : decode cX6_init 8 = .ok (.newarray .int, 2) := by decide +kernel
theorem dX6_init_10 : decode cX6_init 10 = .ok (.putfield 9, 3) := by decide +kernel
theorem dX6_init_13 : decode cX6_init 13 = .ok (.aload_n 0, 1) := by decide +kernel
theorem dX6_init_14 : decode cX6_init 14 = .ok (.new 13, 3) := by decide +kernel
theorem dX6_init_17 : decode cX6_init 17 = .ok (.dup, 1) := by decide +kernel
theorem dX6_init_18 : decode cX6_init 18 = .ok (.invokespecial 15, 3) := by decide +kernel
theorem dX6_init_21 : decode cX6_init 21 = .ok (.putfield 16, 3) := by decide +kernel
theorem dX6_init_24 : decode cX6_init 24 = .ok (.aload_n 0, 1) := by decide +kernel
theorem dX6_init_25 : decode cX6_init 25 = .ok (.new 13, 3) := by decide +kernel
theorem dX6_init_28 : decode cX6_init 28 = .ok (.dup, 1) := by decide +kernel
theorem dX6_init_29 : decode cX6_init 29 = .ok (.invokespecial 15, 3) := by decide +kernel
theorem dX6_init_32 : decode cX6_init 32 = .ok (.putfield 20, 3) := by decide +kernel
theorem dX6_init_35 : decode cX6_init 35 = .ok (.aload_n 0, 1) := by decide +kernel
theorem dX6_init_36 : decode cX6_init 36 = .ok (.new 23, 3) := by decide +kernel
theorem dX6_init_39 : decode cX6_init 39 = .ok (.dup, 1) := by decide +kernel
theorem dX6_init_40 : decode cX6_init 40 = .ok (.invokespecial 25, 3) := by decide +kernel
theorem dX6_init_43 : decode cX6_init 43 = .ok (.putfield 26, 3) := by decide +kernel
theorem dX6_init_46 : decode cX6_init 46 = .ok (.aload_n 0, 1) := by decide +kernel
theorem dX6_init_47 : decode cX6_init 47 = .ok (.sipush 1001, 3) := by decide +kernel
theorem dX6_init_50 : decode cX6_init 50 = .ok (.newarray .long, 2) := by decide +kernel
theorem dX6_init_52 : decode cX6_init 52 = .ok (.putfield 30, 3) := by decide +kernel
theorem dX6_init_55 : decode cX6_init 55 = .ok (.aload_n 0, 1) := by decide +kernel
theorem dX6_init_56 : decode cX6_init 56 = .ok (.bipush 6, 2) := by decide +kernel
theorem dX6_init_58 : decode cX6_init 58 = .ok (.newarray .int, 2) := by decide +kernel
theorem dX6_init_60 : decode cX6_init 60 = .ok (.putfield 34, 3) := by decide +kernel
theorem dX6_init_63 : decode cX6_init 63 = .ok (.aload_n 0, 1) := by decide +kernel
theorem dX6_init_64 : decode cX6_init 64 = .ok (.iconst 3, 1) := by decide +kernel
theorem dX6_init_65 : decode cX6_init 65 = .ok (.newarray .int, 2) := by decide +kernel
theorem dX6_init_67 : decode cX6_init 67 = .ok (.putfield 37, 3) := by decide +kernel
theorem dX6_init_70 : decode cX6_init 70 = .ok (.aload_n 0, 1) := by decide +kernel
theorem dX6_init_71 : decode cX6_init 71 = .ok (.new 40, 3) := by decide +kernel
theorem dX6_init_74 : decode cX6_init 74 = .ok (.dup, 1) := by decide +kernel
theorem dX6_init_75 : decode cX6_init 75 = .ok (.invokespecial 42, 3) := by decide +kernel
theorem dX6_init_78 : decode cX6_init 78 = .ok (.putfield 43, 3) := by decide +kernel
theorem dX6_init_81 : decode cX6_init 81 = .ok (.aload_n 0, 1) := by decide +kernel
theorem dX6_init_82 : decode cX6_init 82 = .ok (.new 47, 3) := by decide +kernel
theorem dX6_init_85 : decode cX6_init 85 = .ok (.dup, 1) := by decide +kernel
theorem dX6_init_86 : decode cX6_init 86 = .ok (.invokespecial 49, 3) := by decide +kernel
theorem dX6_init_89 : decode cX6_init 89 = .ok (.putfield 50, 3) := by decide +kernel
theorem dX6_init_92 : decode cX6_init 92 = .ok (.aload_n 0, 1) := by decide +kernel
theorem dX6_init_93 : decode cX6_init 93 = .ok (.new 47, 3) := by decide +kernel
theorem dX6_init_96 : decode cX6_init 96 = .ok (.dup, 1) := by decide +kernel
theorem dX6_init_97 : decode cX6_init 97 = .ok (.invokespecial 49, 3) := by decide +kernel
theorem dX6_init_100 : decode cX6_init 100 = .ok (.putfield 54, 3) := by decide +kernel
theorem dX6_init_103 : decode cX6_init 103 = .ok (.aload_n 0, 1) := by decide +kernel
theorem dX6_init_104 : decode cX6_init 104 = .ok (.iconst (-1), 1) := by decide +kernel
theorem dX6_init_105 : decode cX6_init 105 = .ok (.putfield 57, 3) := by decide +kernel
theorem dX6_init_108 : decode cX6_init 108 = .ok (.aload_n 0, 1) := by decide +kernel
theorem dX6_init_109 : decode cX6_init 109 = .ok (.new 61, 3) := by decide +kernel
theorem dX6_init_112 : decode cX6_init 112 = .ok (.dup, 1) := by decide +kernel
theorem dX6_init_113 : decode cX6_init 113 = .ok (.aload_n 0, 1) := by decide +kernel
theorem dX6_init_114 : decode cX6_init 114 = .ok (.getfield 9, 3) := by decide +kernel
theorem dX6_init_117 : decode cX6_init 117 = .ok (.aload_n 0, 1) := by decide +kernel
theorem dX6_init_118 : decode cX6_init 118 = .ok (.getfield 54, 3) := by decide +kernel
theorem dX6_init_121 : decode cX6_init 121 = .ok (.invokespecial 63, 3) := by decide +kernel
theorem dX6_init_124 : decode cX6_init 124 = .ok (.putfield 66, 3) := by decide +kernel
theorem dX6_init_127 : decode cX6_init 127 = .ok (.aload_n 0, 1) := by decide +kernel
theorem dX6_init_128 : decode cX6_init 128 = .ok (.new 70, 3) := by decide +kernel
theorem dX6_init_131 : decode cX6_init 131 = .ok (.dup, 1) := by decide +kernel
theorem dX6_init_132 : decode cX6_init 132 = .ok (.aload_n 0, 1) := by decide +kernel
theorem dX6_init_133 : decode cX6_init 133 = .ok (.getfield 50, 3) := by decide +kernel
theorem dX6_init_136 : decode cX6_init 136 = .ok (.invokespecial 72, 3) := by decide +kernel
theorem dX6_init_139 : decode cX6_init 139 = .ok (.putfield 75, 3) := by decide +kernel
theorem dX6_init_142 : decode cX6_init 142 = .ok (.aload_n 0, 1) := by decide +kernel
theorem dX6_init_143 : decode cX6_init 143 = .ok (.getfield 16, 3) := by decide +kernel
theorem dX6_init_146 : decode cX6_init 146 = .ok (.aload_n 0, 1) := by decide +kernel
theorem dX6_init_147 : decode cX6_init 147 = .ok (.getfield 50, 3) := by decide +kernel
theorem dX6_init_150 : decode cX6_init 150 = .ok (.invokevirtual 79, 3) := by decide +kernel
theorem dX6_init_153 : decode cX6_init 153 = .ok (.return_, 1) := by decide +kernel
theorem dX6_feed_0 : decode cX6_feed 0 = .ok (.aload_n 0, 1) := by decide +kernel
theorem dX6_feed_1 : decode cX6_feed 1 = .ok (.getfield 82, 3) := by decide +kernel
theorem dX6_feed_4 : decode cX6_feed 4 = .ok (.bipush 20, 2) := by decide +kernel
theorem dX6_feed_6 : decode cX6_feed 6 = .ok (.iadd, 1) := by decide +kernel
theorem dX6_feed_7 : decode cX6_feed 7 = .ok (.sipush 500, 3) := by decide +kernel
theorem dX6_feed_10 : decode cX6_feed 10 = .ok (.if_icmp .le 5, 3) := by decide +kernel
theorem dX6_feed_13 : decode cX6_feed 13 = .ok (.iconst (-1), 1) := by decide +kernel
theorem dX6_feed_14 : decode cX6_feed 14 = .ok (.ireturn, 1) := by decide +kernel
theorem dX6_feed_15 : decode cX6_feed 15 = .ok (.aload_n 0, 1) := by decide +kernel
theorem dX6_feed_16 : decode cX6_feed 16 = .ok (.iload_n 1, 1) := by decide +kernel
theorem dX6_feed_17 : decode cX6_feed 17 = .ok (.invokevirtual 85, 3) := by decide +kernel
theorem dX6_feed_20 : decode cX6_feed 20 = .ok (.aload_n 0, 1) := by decide +kernel
theorem dX6_feed_21 : decode cX6_feed 21 = .ok (.iload_n 2, 1) := by decide +kernel
theorem dX6_feed_22 : decode cX6_feed 22 = .ok (.invokevirtual 85, 3) := by decide +kernel
theorem dX6_feed_25 : decode cX6_feed 25 = .ok (.aload_n 0, 1) := by decide +kernel
theorem dX6_feed_26 : decode cX6_feed 26 = .ok (.iload_n 3, 1) := by decide +kernel
theorem dX6_feed_27 : decode cX6_feed 27 = .ok (.invokevirtual 85, 3) := by decide +kernel
theorem dX6_feed_30 : decode cX6_feed 30 = .ok (.aload_n 0, 1) := by decide +kernel
theorem dX6_feed_31 : decode cX6_feed 31 = .ok (.iload 4, 2) := by decide +kernel
theorem dX6_feed_33 : decode cX6_feed 33 = .ok (.invokevirtual 85, 3) := by decide +kernel
theorem dX6_feed_36 : decode cX6_feed 36 = .ok (.aload_n 0, 1) := by decide +kernel
theorem dX6_feed_37 : decode cX6_feed 37 = .ok (.iload 5, 2) := by decide +kernel
theorem dX6_feed_39 : decode cX6_feed 39 = .ok (.invokevirtual 85, 3) := by decide +kernel
theorem dX6_feed_42 : decode cX6_feed 42 = .ok (.aload_n 0, 1) := by decide +kernel
theorem dX6_feed_43 : decode cX6_feed 43 = .ok (.getfield 82, 3) := by decide +kernel
theorem dX6_feed_46 : decode cX6_feed 46 = .ok (.ireturn, 1) := by decide +kernel
theorem dX6_valley_0 : decode cX6_valley 0 = .ok (.iload_n 1, 1) := by decide +kernel
theorem dX6_valley_1 : decode cX6_valley 1 = .ok (.ifCond .lt 11, 3) := by decide +kernel
theorem dX6_valley_4 : decode cX6_valley 4 = .ok (.iload_n 1, 1) := by decide +kernel
theorem dX6_valley_5 : decode cX6_valley 5 = .ok (.aload_n 0, 1) := by decide +kernel
theorem dX6_valley_6 : decode cX6_valley 6 = .ok (.getfield 82, 3) := by decide +kernel
theorem dX6_valley_9 : decode cX6_valley 9 = .ok (.if_icmp .le 11, 3) := by decide +kernel
theorem dX6_valley_12 : decode cX6_valley 12 = .ok (.new 89, 3) := by decide +kernel
theorem dX6_valley_15 : decode cX6_valley 15 = .ok (.dup, 1) := by decide +kernel
theorem dX6_valley_16 : decode cX6_valley 16 = .ok (.invokespecial 91, 3) := by decide +kernel
theorem dX6_valley_19 : decode cX6_valley 19 = .ok (.athrow, 1) := by decide +kernel
theorem dX6_valley_20 : decode cX6_valley 20 = .ok (.aload_n 0, 1) := by decide +kernel
theorem dX6_valley_21 : decode cX6_valley 21 = .ok (.iconst 0, 1) := by decide +kernel
theorem dX6_valley_22 : decode cX6_valley 22 = .ok (.putfield 82, 3) := by decide +kernel
theorem dX6_valley_25 : decode cX6_valley 25 = .ok (.aload_n 0, 1) := by decide +kernel
theorem dX6_valley_26 : decode cX6_valley 26 = .ok (.getfield 66, 3) := by decide +kernel
theorem dX6_valley_29 : decode cX6_valley 29 = .ok (.iload_n 1, 1) := by decide +kernel
theorem dX6_valley_30 : decode cX6_valley 30 = .ok (.aload_n 0, 1) := by decide +kernel
theorem dX6_valley_31 : decode cX6_valley 31 = .ok (.getfield 54, 3) := by decide +kernel
theorem dX6_valley_34 : decode cX6_valley 34 = .ok (.invokevirtual 92, 3) := by decide +kernel
theorem dX6_valley_37 : decode cX6_valley 37 = .ok (.aload_n 0, 1) := by decide +kernel
theorem dX6_valley_38 : decode cX6_valley 38 = .ok (.aload_n 0, 1) := by decide +kernel
theorem dX6_valley_39 : decode cX6_valley 39 = .ok (.getfield 66, 3) := by decide +kernel
theorem dX6_valley_42 : decode cX6_valley 42 = .ok (.getfield 96, 3) := by decide +kernel
theorem dX6_valley_45 : decode cX6_valley 45 = .ok (.putfield 57, 3) := by decide +kernel
theorem dX6_valley_48 : decode cX6_valley 48 = .ok (.aload_n 0, 1) := by decide +kernel
theorem dX6_valley_49 : decode cX6_valley 49 = .ok (.getfield 66, 3) := by decide +kernel
theorem dX6_valley_52 : decode cX6_valley 52 = .ok (.getfield 99, 3) := by decide +kernel
theorem dX6_valley_55 : decode cX6_valley 55 = .ok (.ifCond .eq 24, 3) := by decide +kernel
theorem dX6_valley_58 : decode cX6_valley 58 = .ok (.aload_n 0, 1) := by decide +kernel
theorem dX6_valley_59 : decode cX6_valley 59 = .ok (.getfield 16, 3) := by decide +kernel
theorem dX6_valley_62 : decode cX6_valley 62 = .ok (.getfield 102, 3) := by decide +kernel
theorem dX6_valley_65 : decode cX6_valley 65 = .ok (.iconst 0, 1) := by decide +kernel
theorem dX6_valley_66 : decode cX6_valley 66 = .ok (.dup2, 1) := by decide +kernel
theorem dX6_valley_67 : decode cX6_valley 67 = .ok (.iaload, 1) := by decide +kernel
theorem dX6_valley_68 : decode cX6_valley 68 = .ok (.iconst 1, 1) := by decide +kernel
theorem dX6_valley_69 : decode cX6_valley 69 = .ok (.iadd, 1) := by decide +kernel
theorem dX6_valley_70 : decode cX6_valley 70 = .ok (.iastore, 1) := by decide +kernel
theorem dX6_valley_71 : decode cX6_valley 71 = .ok (.aload_n 0, 1) := by decide +kernel
theorem dX6_valley_72 : decode cX6_valley 72 = .ok (.getfield 66, 3) := by decide +kernel
theorem dX6_valley_75 : decode cX6_valley 75 = .ok (.getfield 99, 3) := by decide +kernel
theorem dX6_valley_78 : decode cX6_valley 78 = .ok (.ireturn, 1) := by decide +kernel
theorem dX6_valley_79 : decode cX6_valley 79 = .ok (.aload_n 0, 1) := by decide +kernel
theorem dX6_valley_80 : decode cX6_valley 80 = .ok (.getfield 50, 3) := by decide +kernel
theorem dX6_valley_83 : decode cX6_valley 83 = .ok (.astore_n 2, 1) := by decide +kernel
theorem dX6_valley_84 : decode cX6_valley 84 = .ok (.aload_n 0, 1) := by decide +kernel
theorem dX6_valley_85 : decode cX6_valley 85 = .ok (.aload_n 0, 1) := by decide +kernel
theorem dX6_valley_86 : decode cX6_valley 86 = .ok (.getfield 54, 3) := by decide +kernel
theorem dX6_valley_89 : decode cX6_valley 89 = .ok (.putfield 50, 3) := by decide +kernel
theorem dX6_valley_92 : decode cX6_valley 92 = .ok (.aload_n 0, 1) := by decide +kernel
theorem dX6_valley_93 : decode cX6_valley 93 = .ok (.aload_n 2, 1) := by decide +kernel
theorem dX6_valley_94 : decode cX6_valley 94 = .ok (.putfield 54, 3) := by decide +kernel
theorem dX6_valley_97 : decode cX6_valley 97 = .ok (.aload_n 0, 1) := by decide +kernel
theorem dX6_valley_98 : decode cX6_valley 98 = .ok (.getfield 16, 3) := by decide +kernel
theorem dX6_valley_101 : decode cX6_valley 101 = .ok (.aload_n 0, 1) := by decide +kernel
theorem dX6_valley_102 : decode cX6_valley 102 = .ok (.getfield 50, 3) := by decide +kernel
theorem dX6_valley_105 : decode cX6_valley 105 = .ok (.invokevirtual 79, 3) := by decide +kernel
theorem dX6_valley_108 : decode cX6_valley 108 = .ok (.aload_n 0, 1) := by decide +kernel
theorem dX6_valley_109 : decode cX6_valley 109 = .ok (.iconst 0, 1) := by decide +kernel
theorem dX6_valley_110 : decode cX6_valley 110 = .ok (.putfield 105, 3) := by decide +kernel
theorem dX6_valley_113 : decode cX6_valley 113 = .ok (.iconst 0, 1) := by decide +kernel
theorem dX6_valley_114 : decode cX6_valley 114 = .ok (.ireturn, 1) := by decide +kernel
theorem dX6_fault_0 : decode cX6_fault 0 = .ok (.aload_n 0, 1) := by decide +kernel
theorem dX6_fault_1 : decode cX6_fault 1 = .ok (.getfield 57, 3) := by decide +kernel
theorem dX6_fault_4 : decode cX6_fault 4 = .ok (.ireturn, 1) := by decide +kernel
theorem dX6_count_0 : decode cX6_count 0 = .ok (.iload_n 1, 1) := by decide +kernel
theorem dX6_count_1 : decode cX6_count 1 = .ok (.tableswitch 180 0 12 #[67, 75, 83, 91, 99, 107, 115, 123, 134, 145, 150, 160, 170], 67) := by decide +kernel
theorem dX6_count_68 : decode cX6_count 68 = .ok (.aload_n 0, 1) := by decide +kernel
theorem dX6_count_69 : decode cX6_count 69 = .ok (.getfield 50, 3) := by decide +kernel
theorem dX6_count_72 : decode cX6_count 72 = .ok (.getfield 109, 3) := by decide +kernel
theorem dX6_count_75 : decode cX6_count 75 = .ok (.ireturn, 1) := by decide +kernel
theorem dX6_count_76 : decode cX6_count 76 = .ok (.aload_n 0, 1) := by decide +kernel
theorem dX6_count_77 : decode cX6_count 77 = .ok (.getfield 50, 3) := by decide +kernel
theorem dX6_count_80 : decode cX6_count 80 = .ok (.getfield 112, 3) := by decide +kernel
theorem dX6_count_83 : decode cX6_count 83 = .ok (.ireturn, 1) := by decide +kernel
theorem dX6_count_84 : decode cX6_count 84 = .ok (.aload_n 0, 1) := by decide +kernel
theorem dX6_count_85 : decode cX6_count 85 = .ok (.getfield 50, 3) := by decide +kernel
theorem dX6_count_88 : decode cX6_count 88 = .ok (.getfield 115, 3) := by decide +kernel
theorem dX6_count_91 : decode cX6_count 91 = .ok (.ireturn, 1) := by decide +kernel
theorem dX6_count_92 : decode cX6_count 92 = .ok (.aload_n 0, 1) := by decide +kernel
theorem dX6_count_93 : decode cX6_count 93 = .ok (.getfield 50, 3) := by decide +kernel
theorem dX6_count_96 : decode cX6_count 96 = .ok (.getfield 118, 3) := by decide +kernel
theorem dX6_count_99 : decode cX6_count 99 = .ok (.ireturn, 1) := by decide +kernel
theorem dX6_count_100 : decode cX6_count 100 = .ok (.aload_n 0, 1) := by decide +kernel
theorem dX6_count_101 : decode cX6_count 101 = .ok (.getfield 50, 3) := by decide +kernel
theorem dX6_count_104 : decode cX6_count 104 = .ok (.getfield 121, 3) := by decide +kernel
theorem dX6_count_107 : decode cX6_count 107 = .ok (.ireturn, 1) := by decide +kernel
theorem dX6_count_108 : decode cX6_count 108 = .ok (.aload_n 0, 1) := by decide +kernel
theorem dX6_count_109 : decode cX6_count 109 = .ok (.getfield 50, 3) := by decide +kernel
theorem dX6_count_112 : decode cX6_count 112 = .ok (.getfield 124, 3) := by decide +kernel
theorem dX6_count_115 : decode cX6_count 115 = .ok (.ireturn, 1) := by decide +kernel
theorem dX6_count_116 : decode cX6_count 116 = .ok (.aload_n 0, 1) := by decide +kernel
theorem dX6_count_117 : decode cX6_count 117 = .ok (.getfield 50, 3) := by decide +kernel
theorem dX6_count_120 : decode cX6_count 120 = .ok (.getfield 127, 3) := by decide +kernel
theorem dX6_count_123 : decode cX6_count 123 = .ok (.ireturn, 1) := by decide +kernel
theorem dX6_count_124 : decode cX6_count 124 = .ok (.aload_n 0, 1) := by decide +kernel
theorem dX6_count_125 : decode cX6_count 125 = .ok (.getfield 16, 3) := by decide +kernel
theorem dX6_count_128 : decode cX6_count 128 = .ok (.getfield 130, 3) := by decide +kernel
theorem dX6_count_131 : decode cX6_count 131 = .ok (.getfield 133, 3) := by decide +kernel
theorem dX6_count_134 : decode cX6_count 134 = .ok (.ireturn, 1) := by decide +kernel
theorem dX6_count_135 : decode cX6_count 135 = .ok (.aload_n 0, 1) := by decide +kernel
theorem dX6_count_136 : decode cX6_count 136 = .ok (.getfield 16, 3) := by decide +kernel
theorem dX6_count_139 : decode cX6_count 139 = .ok (.getfield 130, 3) := by decide +kernel
theorem dX6_count_142 : decode cX6_count 142 = .ok (.getfield 136, 3) := by decide +kernel
theorem dX6_count_145 : decode cX6_count 145 = .ok (.ireturn, 1) := by decide +kernel
theorem dX6_count_146 : decode cX6_count 146 = .ok (.aload_n 0, 1) := by decide +kernel
theorem dX6_count_147 : decode cX6_count 147 = .ok (.getfield 82, 3) := by decide +kernel
theorem dX6_count_150 : decode cX6_count 150 = .ok (.ireturn, 1) := by decide +kernel
theorem dX6_count_151 : decode cX6_count 151 = .ok (.aload_n 0, 1) := by decide +kernel
theorem dX6_count_152 : decode cX6_count 152 = .ok (.getfield 16, 3) := by decide +kernel
theorem dX6_count_155 : decode cX6_count 155 = .ok (.getfield 102, 3) := by decide +kernel
theorem dX6_count_158 : decode cX6_count 158 = .ok (.iconst 0, 1) := by decide +kernel
theorem dX6_count_159 : decode cX6_count 159 = .ok (.iaload, 1) := by decide +kernel
theorem dX6_count_160 : decode cX6_count 160 = .ok (.ireturn, 1) := by decide +kernel
theorem dX6_count_161 : decode cX6_count 161 = .ok (.aload_n 0, 1) := by decide +kernel
theorem dX6_count_162 : decode cX6_count 162 = .ok (.getfield 16, 3) := by decide +kernel
theorem dX6_count_165 : decode cX6_count 165 = .ok (.getfield 102, 3) := by decide +kernel
theorem dX6_count_168 : decode cX6_count 168 = .ok (.iconst 1, 1) := by decide +kernel
theorem dX6_count_169 : decode cX6_count 169 = .ok (.iaload, 1) := by decide +kernel
theorem dX6_count_170 : decode cX6_count 170 = .ok (.ireturn, 1) := by decide +kernel
theorem dX6_count_171 : decode cX6_count 171 = .ok (.aload_n 0, 1) := by decide +kernel
theorem dX6_count_172 : decode cX6_count 172 = .ok (.getfield 16, 3) := by decide +kernel
theorem dX6_count_175 : decode cX6_count 175 = .ok (.getfield 102, 3) := by decide +kernel
theorem dX6_count_178 : decode cX6_count 178 = .ok (.iconst 2, 1) := by decide +kernel
theorem dX6_count_179 : decode cX6_count 179 = .ok (.iaload, 1) := by decide +kernel
theorem dX6_count_180 : decode cX6_count 180 = .ok (.ireturn, 1) := by decide +kernel
theorem dX6_count_181 : decode cX6_count 181 = .ok (.new 139, 3) := by decide +kernel
theorem dX6_count_184 : decode cX6_count 184 = .ok (.dup, 1) := by decide +kernel
theorem dX6_count_185 : decode cX6_count 185 = .ok (.invokespecial 141, 3) := by decide +kernel
theorem dX6_count_188 : decode cX6_count 188 = .ok (.athrow, 1) := by decide +kernel
theorem dX6_lamp_0 : decode cX6_lamp 0 = .ok (.aload_n 0, 1) := by decide +kernel
theorem dX6_lamp_1 : decode cX6_lamp 1 = .ok (.iload_n 1, 1) := by decide +kernel
theorem dX6_lamp_2 : decode cX6_lamp 2 = .ok (.invokevirtual 142, 3) := by decide +kernel
theorem dX6_lamp_5 : decode cX6_lamp 5 = .ok (.iload_n 2, 1) := by decide +kernel
theorem dX6_lamp_6 : decode cX6_lamp 6 = .ok (.tableswitch 121 0 7 #[46, 56, 66, 66, 66, 85, 95, 108], 46) := by decide +kernel
theorem dX6_lamp_52 : decode cX6_lamp 52 = .ok (.aload_n 0, 1) := by decide +kernel
theorem dX6_lamp_53 : decode cX6_lamp 53 = .ok (.getfield 50, 3) := by decide +kernel
theorem dX6_lamp_56 : decode cX6_lamp 56 = .ok (.getfield 145, 3) := by decide +kernel
theorem dX6_lamp_59 : decode cX6_lamp 59 = .ok (.iload_n 1, 1) := by decide +kernel
theorem dX6_lamp_60 : decode cX6_lamp 60 = .ok (.iaload, 1) := by decide +kernel
theorem dX6_lamp_61 : decode cX6_lamp 61 = .ok (.ireturn, 1) := by decide +kernel
theorem dX6_lamp_62 : decode cX6_lamp 62 = .ok (.aload_n 0, 1) := by decide +kernel
theorem dX6_lamp_63 : decode cX6_lamp 63 = .ok (.getfield 50, 3) := by decide +kernel
theorem dX6_lamp_66 : decode cX6_lamp 66 = .ok (.getfield 148, 3) := by decide +kernel
theorem dX6_lamp_69 : decode cX6_lamp 69 = .ok (.iload_n 1, 1) := by decide +kernel
theorem dX6_lamp_70 : decode cX6_lamp 70 = .ok (.iaload, 1) := by decide +kernel
theorem dX6_lamp_71 : decode cX6_lamp 71 = .ok (.ireturn, 1) := by decide +kernel
theorem dX6_lamp_72 : decode cX6_lamp 72 = .ok (.aload_n 0, 1) := by decide +kernel
theorem dX6_lamp_73 : decode cX6_lamp 73 = .ok (.getfield 16, 3) := by decide +kernel
theorem dX6_lamp_76 : decode cX6_lamp 76 = .ok (.getfield 130, 3) := by decide +kernel
theorem dX6_lamp_79 : decode cX6_lamp 79 = .ok (.getfield 151, 3) := by decide +kernel
theorem dX6_lamp_82 : decode cX6_lamp 82 = .ok (.iload_n 1, 1) := by decide +kernel
theorem dX6_lamp_83 : decode cX6_lamp 83 = .ok (.iconst 3, 1) := by decide +kernel
theorem dX6_lamp_84 : decode cX6_lamp 84 = .ok (.imul, 1) := by decide +kernel
theorem dX6_lamp_85 : decode cX6_lamp 85 = .ok (.iload_n 2, 1) := by decide +kernel
theorem dX6_lamp_86 : decode cX6_lamp 86 = .ok (.iadd, 1) := by decide +kernel
theorem dX6_lamp_87 : decode cX6_lamp 87 = .ok (.iconst 2, 1) := by decide +kernel
theorem dX6_lamp_88 : decode cX6_lamp 88 = .ok (.isub, 1) := by decide +kernel
theorem dX6_lamp_89 : decode cX6_lamp 89 = .ok (.iaload, 1) := by decide +kernel
theorem dX6_lamp_90 : decode cX6_lamp 90 = .ok (.ireturn, 1) := by decide +kernel
theorem dX6_lamp_91 : decode cX6_lamp 91 = .ok (.aload_n 0, 1) := by decide +kernel
theorem dX6_lamp_92 : decode cX6_lamp 92 = .ok (.getfield 50, 3) := by decide +kernel
theorem dX6_lamp_95 : decode cX6_lamp 95 = .ok (.getfield 154, 3) := by decide +kernel
theorem dX6_lamp_98 : decode cX6_lamp 98 = .ok (.iload_n 1, 1) := by decide +kernel
theorem dX6_lamp_99 : decode cX6_lamp 99 = .ok (.iaload, 1) := by decide +kernel
theorem dX6_lamp_100 : decode cX6_lamp 100 = .ok (.ireturn, 1) := by decide +kernel
theorem dX6_lamp_101 : decode cX6_lamp 101 = .ok (.aload_n 0, 1) := by decide +kernel
theorem dX6_lamp_102 : decode cX6_lamp 102 = .ok (.getfield 16, 3) := by decide +kernel
theorem dX6_lamp_105 : decode cX6_lamp 105 = .ok (.getfield 130, 3) := by decide +kernel
theorem dX6_lamp_108 : decode cX6_lamp 108 = .ok (.getfield 157, 3) := by decide +kernel
theorem dX6_lamp_111 : decode cX6_lamp 111 = .ok (.iload_n 1, 1) := by decide +kernel
theorem dX6_lamp_112 : decode cX6_lamp 112 = .ok (.iaload, 1) := by decide +kernel
theorem dX6_lamp_113 : decode cX6_lamp 113 = .ok (.ireturn, 1) := by decide +kernel
theorem dX6_lamp_114 : decode cX6_lamp 114 = .ok (.aload_n 0, 1) := by decide +kernel
theorem dX6_lamp_115 : decode cX6_lamp 115 = .ok (.getfield 16, 3) := by decide +kernel
theorem dX6_lamp_118 : decode cX6_lamp 118 = .ok (.getfield 130, 3) := by decide +kernel
theorem dX6_lamp_121 : decode cX6_lamp 121 = .ok (.getfield 160, 3) := by decide +kernel
theorem dX6_lamp_124 : decode cX6_lamp 124 = .ok (.iload_n 1, 1) := by decide +kernel
theorem dX6_lamp_125 : decode cX6_lamp 125 = .ok (.iaload, 1) := by decide +kernel
theorem dX6_lamp_126 : decode cX6_lamp 126 = .ok (.ireturn, 1) := by decide +kernel
theorem dX6_lamp_127 : decode cX6_lamp 127 = .ok (.new 139, 3) := by decide +kernel
theorem dX6_lamp_130 : decode cX6_lamp 130 = .ok (.dup, 1) := by decide +kernel
theorem dX6_lamp_131 : decode cX6_lamp 131 = .ok (.invokespecial 141, 3) := by decide +kernel
theorem dX6_lamp_134 : decode cX6_lamp 134 = .ok (.athrow, 1) := by decide +kernel
theorem dX6_far_0 : decode cX6_far 0 = .ok (.aload_n 0, 1) := by decide +kernel
theorem dX6_far_1 : decode cX6_far 1 = .ok (.iload_n 1, 1) := by decide +kernel
theorem dX6_far_2 : decode cX6_far 2 = .ok (.invokevirtual 142, 3) := by decide +kernel
theorem dX6_far_5 : decode cX6_far 5 = .ok (.aload_n 0, 1) := by decide +kernel
theorem dX6_far_6 : decode cX6_far 6 = .ok (.iload_n 2, 1) := by decide +kernel
theorem dX6_far_7 : decode cX6_far 7 = .ok (.invokevirtual 142, 3) := by decide +kernel
theorem dX6_far_10 : decode cX6_far 10 = .ok (.aload_n 0, 1) := by decide +kernel
theorem dX6_far_11 : decode cX6_far 11 = .ok (.getfield 16, 3) := by decide +kernel
theorem dX6_far_14 : decode cX6_far 14 = .ok (.getfield 130, 3) := by decide +kernel
theorem dX6_far_17 : decode cX6_far 17 = .ok (.iload_n 1, 1) := by decide +kernel
theorem dX6_far_18 : decode cX6_far 18 = .ok (.iload_n 2, 1) := by decide +kernel
theorem dX6_far_19 : decode cX6_far 19 = .ok (.invokevirtual 163, 3) := by decide +kernel
theorem dX6_far_22 : decode cX6_far 22 = .ok (.ireturn, 1) := by decide +kernel
theorem dX6_nights_0 : decode cX6_nights 0 = .ok (.iload_n 1, 1) := by decide +kernel
theorem dX6_nights_1 : decode cX6_nights 1 = .ok (.ifCond .lt 9, 3) := by decide +kernel
theorem dX6_nights_4 : decode cX6_nights 4 = .ok (.iload_n 1, 1) := by decide +kernel
theorem dX6_nights_5 : decode cX6_nights 5 = .ok (.bipush 99, 2) := by decide +kernel
theorem dX6_nights_7 : decode cX6_nights 7 = .ok (.if_icmp .le 11, 3) := by decide +kernel
theorem dX6_nights_10 : decode cX6_nights 10 = .ok (.new 89, 3) := by decide +kernel
theorem dX6_nights_13 : decode cX6_nights 13 = .ok (.dup, 1) := by decide +kernel
theorem dX6_nights_14 : decode cX6_nights 14 = .ok (.invokespecial 91, 3) := by decide +kernel
theorem dX6_nights_17 : decode cX6_nights 17 = .ok (.athrow, 1) := by decide +kernel
theorem dX6_nights_18 : decode cX6_nights 18 = .ok (.aload_n 0, 1) := by decide +kernel
theorem dX6_nights_19 : decode cX6_nights 19 = .ok (.getfield 16, 3) := by decide +kernel
theorem dX6_nights_22 : decode cX6_nights 22 = .ok (.getfield 130, 3) := by decide +kernel
theorem dX6_nights_25 : decode cX6_nights 25 = .ok (.getfield 133, 3) := by decide +kernel
theorem dX6_nights_28 : decode cX6_nights 28 = .ok (.iload_n 1, 1) := by decide +kernel
theorem dX6_nights_29 : decode cX6_nights 29 = .ok (.iadd, 1) := by decide +kernel
theorem dX6_nights_30 : decode cX6_nights 30 = .ok (.aload_n 0, 1) := by decide +kernel
theorem dX6_nights_31 : decode cX6_nights 31 = .ok (.getfield 50, 3) := by decide +kernel
theorem dX6_nights_34 : decode cX6_nights 34 = .ok (.getfield 124, 3) := by decide +kernel
theorem dX6_nights_37 : decode cX6_nights 37 = .ok (.if_icmp .le 18, 3) := by decide +kernel
theorem dX6_nights_40 : decode cX6_nights 40 = .ok (.aload_n 0, 1) := by decide +kernel
theorem dX6_nights_41 : decode cX6_nights 41 = .ok (.getfield 16, 3) := by decide +kernel
theorem dX6_nights_44 : decode cX6_nights 44 = .ok (.getfield 102, 3) := by decide +kernel
theorem dX6_nights_47 : decode cX6_nights 47 = .ok (.iconst 2, 1) := by decide +kernel
theorem dX6_nights_48 : decode cX6_nights 48 = .ok (.dup2, 1) := by decide +kernel
theorem dX6_nights_49 : decode cX6_nights 49 = .ok (.iaload, 1) := by decide +kernel
theorem dX6_nights_50 : decode cX6_nights 50 = .ok (.iconst 1, 1) := by decide +kernel
theorem dX6_nights_51 : decode cX6_nights 51 = .ok (.iadd, 1) := by decide +kernel
theorem dX6_nights_52 : decode cX6_nights 52 = .ok (.iastore, 1) := by decide +kernel
theorem dX6_nights_53 : decode cX6_nights 53 = .ok (.iconst (-1), 1) := by decide +kernel
theorem dX6_nights_54 : decode cX6_nights 54 = .ok (.ireturn, 1) := by decide +kernel
theorem dX6_nights_55 : decode cX6_nights 55 = .ok (.aload_n 0, 1) := by decide +kernel
theorem dX6_nights_56 : decode cX6_nights 56 = .ok (.getfield 16, 3) := by decide +kernel
theorem dX6_nights_59 : decode cX6_nights 59 = .ok (.getfield 130, 3) := by decide +kernel
theorem dX6_nights_62 : decode cX6_nights 62 = .ok (.getfield 136, 3) := by decide +kernel
theorem dX6_nights_65 : decode cX6_nights 65 = .ok (.istore_n 2, 1) := by decide +kernel
theorem dX6_nights_66 : decode cX6_nights 66 = .ok (.aload_n 0, 1) := by decide +kernel
theorem dX6_nights_67 : decode cX6_nights 67 = .ok (.getfield 75, 3) := by decide +kernel
theorem dX6_nights_70 : decode cX6_nights 70 = .ok (.aload_n 0, 1) := by decide +kernel
theorem dX6_nights_71 : decode cX6_nights 71 = .ok (.getfield 50, 3) := by decide +kernel
theorem dX6_nights_74 : decode cX6_nights 74 = .ok (.aload_n 0, 1) := by decide +kernel
theorem dX6_nights_75 : decode cX6_nights 75 = .ok (.getfield 50, 3) := by decide +kernel
theorem dX6_nights_78 : decode cX6_nights 78 = .ok (.getfield 154, 3) := by decide +kernel
theorem dX6_nights_81 : decode cX6_nights 81 = .ok (.iconst 0, 1) := by decide +kernel
theorem dX6_nights_82 : decode cX6_nights 82 = .ok (.invokevirtual 167, 3) := by decide +kernel
theorem dX6_nights_85 : decode cX6_nights 85 = .ok (.iconst 0, 1) := by decide +kernel
theorem dX6_nights_86 : decode cX6_nights 86 = .ok (.istore_n 3, 1) := by decide +kernel
theorem dX6_nights_87 : decode cX6_nights 87 = .ok (.iload_n 3, 1) := by decide +kernel
theorem dX6_nights_88 : decode cX6_nights 88 = .ok (.iload_n 1, 1) := by decide +kernel
theorem dX6_nights_89 : decode cX6_nights 89 = .ok (.if_icmp .ge 38, 3) := by decide +kernel
theorem dX6_nights_92 : decode cX6_nights 92 = .ok (.aload_n 0, 1) := by decide +kernel
theorem dX6_nights_93 : decode cX6_nights 93 = .ok (.getfield 16, 3) := by decide +kernel
theorem dX6_nights_96 : decode cX6_nights 96 = .ok (.invokevirtual 171, 3) := by decide +kernel
theorem dX6_nights_99 : decode cX6_nights 99 = .ok (.aload_n 0, 1) := by decide +kernel
theorem dX6_nights_100 : decode cX6_nights 100 = .ok (.getfield 75, 3) := by decide +kernel
theorem dX6_nights_103 : decode cX6_nights 103 = .ok (.aload_n 0, 1) := by decide +kernel
theorem dX6_nights_104 : decode cX6_nights 104 = .ok (.getfield 16, 3) := by decide +kernel
theorem dX6_nights_107 : decode cX6_nights 107 = .ok (.getfield 130, 3) := by decide +kernel
theorem dX6_nights_110 : decode cX6_nights 110 = .ok (.invokevirtual 174, 3) := by decide +kernel
theorem dX6_nights_113 : decode cX6_nights 113 = .ok (.pop, 1) := by decide +kernel
theorem dX6_nights_114 : decode cX6_nights 114 = .ok (.aload_n 0, 1) := by decide +kernel
theorem dX6_nights_115 : decode cX6_nights 115 = .ok (.getfield 16, 3) := by decide +kernel
theorem dX6_nights_118 : decode cX6_nights 118 = .ok (.invokevirtual 178, 3) := by decide +kernel
theorem dX6_nights_121 : decode cX6_nights 121 = .ok (.iinc 3 1, 3) := by decide +kernel
theorem dX6_nights_124 : decode cX6_nights 124 = .ok (.goto (-37), 3) := by decide +kernel
theorem dX6_nights_127 : decode cX6_nights 127 = .ok (.aload_n 0, 1) := by decide +kernel
theorem dX6_nights_128 : decode cX6_nights 128 = .ok (.getfield 16, 3) := by decide +kernel
theorem dX6_nights_131 : decode cX6_nights 131 = .ok (.getfield 130, 3) := by decide +kernel
theorem dX6_nights_134 : decode cX6_nights 134 = .ok (.getfield 136, 3) := by decide +kernel
theorem dX6_nights_137 : decode cX6_nights 137 = .ok (.iload_n 2, 1) := by decide +kernel
theorem dX6_nights_138 : decode cX6_nights 138 = .ok (.isub, 1) := by decide +kernel
theorem dX6_nights_139 : decode cX6_nights 139 = .ok (.ireturn, 1) := by decide +kernel
theorem dX6_undo_0 : decode cX6_undo 0 = .ok (.iload_n 1, 1) := by decide +kernel
theorem dX6_undo_1 : decode cX6_undo 1 = .ok (.ifCond .ge 11, 3) := by decide +kernel
theorem dX6_undo_4 : decode cX6_undo 4 = .ok (.new 89, 3) := by decide +kernel
theorem dX6_undo_7 : decode cX6_undo 7 = .ok (.dup, 1) := by decide +kernel
theorem dX6_undo_8 : decode cX6_undo 8 = .ok (.invokespecial 91, 3) := by decide +kernel
theorem dX6_undo_11 : decode cX6_undo 11 = .ok (.athrow, 1) := by decide +kernel
theorem dX6_undo_12 : decode cX6_undo 12 = .ok (.iload_n 1, 1) := by decide +kernel
theorem dX6_undo_13 : decode cX6_undo 13 = .ok (.aload_n 0, 1) := by decide +kernel
theorem dX6_undo_14 : decode cX6_undo 14 = .ok (.getfield 16, 3) := by decide +kernel
theorem dX6_undo_17 : decode cX6_undo 17 = .ok (.getfield 130, 3) := by decide +kernel
theorem dX6_undo_20 : decode cX6_undo 20 = .ok (.getfield 133, 3) := by decide +kernel
theorem dX6_undo_23 : decode cX6_undo 23 = .ok (.invokestatic 181, 3) := by decide +kernel
theorem dX6_undo_26 : decode cX6_undo 26 = .ok (.istore_n 2, 1) := by decide +kernel
theorem dX6_undo_27 : decode cX6_undo 27 = .ok (.iload_n 2, 1) := by decide +kernel
theorem dX6_undo_28 : decode cX6_undo 28 = .ok (.ifCond .le 11, 3) := by decide +kernel
theorem dX6_undo_31 : decode cX6_undo 31 = .ok (.aload_n 0, 1) := by decide +kernel
theorem dX6_undo_32 : decode cX6_undo 32 = .ok (.getfield 16, 3) := by decide +kernel
theorem dX6_undo_35 : decode cX6_undo 35 = .ok (.iload_n 2, 1) := by decide +kernel
theorem dX6_undo_36 : decode cX6_undo 36 = .ok (.invokevirtual 186, 3) := by decide +kernel
theorem dX6_undo_39 : decode cX6_undo 39 = .ok (.iload_n 2, 1) := by decide +kernel
theorem dX6_undo_40 : decode cX6_undo 40 = .ok (.ireturn, 1) := by decide +kernel
theorem dX6_book_0 : decode cX6_book 0 = .ok (.aload_n 0, 1) := by decide +kernel
theorem dX6_book_1 : decode cX6_book 1 = .ok (.iload_n 2, 1) := by decide +kernel
theorem dX6_book_2 : decode cX6_book 2 = .ok (.invokevirtual 142, 3) := by decide +kernel
theorem dX6_book_5 : decode cX6_book 5 = .ok (.iload_n 3, 1) := by decide +kernel
theorem dX6_book_6 : decode cX6_book 6 = .ok (.invokestatic 189, 3) := by decide +kernel
theorem dX6_book_9 : decode cX6_book 9 = .ok (.iload_n 1, 1) := by decide +kernel
theorem dX6_book_10 : decode cX6_book 10 = .ok (.ifCond .lt 17, 3) := by decide +kernel
theorem dX6_book_13 : decode cX6_book 13 = .ok (.iload_n 1, 1) := by decide +kernel
theorem dX6_book_14 : decode cX6_book 14 = .ok (.aload_n 0, 1) := by decide +kernel
theorem dX6_book_15 : decode cX6_book 15 = .ok (.getfield 16, 3) := by decide +kernel
theorem dX6_book_18 : decode cX6_book 18 = .ok (.getfield 130, 3) := by decide +kernel
theorem dX6_book_21 : decode cX6_book 21 = .ok (.getfield 133, 3) := by decide +kernel
theorem dX6_book_24 : decode cX6_book 24 = .ok (.if_icmp .le 11, 3) := by decide +kernel
theorem dX6_book_27 : decode cX6_book 27 = .ok (.new 139, 3) := by decide +kernel
theorem dX6_book_30 : decode cX6_book 30 = .ok (.dup, 1) := by decide +kernel
theorem dX6_book_31 : decode cX6_book 31 = .ok (.invokespecial 141, 3) := by decide +kernel
theorem dX6_book_34 : decode cX6_book 34 = .ok (.athrow, 1) := by decide +kernel
theorem dX6_book_35 : decode cX6_book 35 = .ok (.aload_n 0, 1) := by decide +kernel
theorem dX6_book_36 : decode cX6_book 36 = .ok (.getfield 16, 3) := by decide +kernel
theorem dX6_book_39 : decode cX6_book 39 = .ok (.getfield 192, 3) := by decide +kernel
theorem dX6_book_42 : decode cX6_book 42 = .ok (.iload_n 1, 1) := by decide +kernel
theorem dX6_book_43 : decode cX6_book 43 = .ok (.bipush 18, 2) := by decide +kernel
theorem dX6_book_45 : decode cX6_book 45 = .ok (.imul, 1) := by decide +kernel
theorem dX6_book_46 : decode cX6_book 46 = .ok (.iload_n 2, 1) := by decide +kernel
theorem dX6_book_47 : decode cX6_book 47 = .ok (.iconst 3, 1) := by decide +kernel
theorem dX6_book_48 : decode cX6_book 48 = .ok (.imul, 1) := by decide +kernel
theorem dX6_book_49 : decode cX6_book 49 = .ok (.iadd, 1) := by decide +kernel
theorem dX6_book_50 : decode cX6_book 50 = .ok (.iload_n 3, 1) := by decide +kernel
theorem dX6_book_51 : decode cX6_book 51 = .ok (.iadd, 1) := by decide +kernel
theorem dX6_book_52 : decode cX6_book 52 = .ok (.iaload, 1) := by decide +kernel
theorem dX6_book_53 : decode cX6_book 53 = .ok (.ireturn, 1) := by decide +kernel
theorem dX6_drop_0 : decode cX6_drop 0 = .ok (.aload_n 0, 1) := by decide +kernel
theorem dX6_drop_1 : decode cX6_drop 1 = .ok (.iload_n 1, 1) := by decide +kernel
theorem dX6_drop_2 : decode cX6_drop 2 = .ok (.invokevirtual 142, 3) := by decide +kernel
theorem dX6_drop_5 : decode cX6_drop 5 = .ok (.iload_n 2, 1) := by decide +kernel
theorem dX6_drop_6 : decode cX6_drop 6 = .ok (.invokestatic 189, 3) := by decide +kernel
theorem dX6_drop_9 : decode cX6_drop 9 = .ok (.iload_n 3, 1) := by decide +kernel
theorem dX6_drop_10 : decode cX6_drop 10 = .ok (.invokestatic 189, 3) := by decide +kernel
theorem dX6_drop_13 : decode cX6_drop 13 = .ok (.iload_n 2, 1) := by decide +kernel
theorem dX6_drop_14 : decode cX6_drop 14 = .ok (.iload_n 3, 1) := by decide +kernel
theorem dX6_drop_15 : decode cX6_drop 15 = .ok (.if_icmp .ne 11, 3) := by decide +kernel
theorem dX6_drop_18 : decode cX6_drop 18 = .ok (.new 139, 3) := by decide +kernel
theorem dX6_drop_21 : decode cX6_drop 21 = .ok (.dup, 1) := by decide +kernel
theorem dX6_drop_22 : decode cX6_drop 22 = .ok (.invokespecial 141, 3) := by decide +kernel
theorem dX6_drop_25 : decode cX6_drop 25 = .ok (.athrow, 1) := by decide +kernel
theorem dX6_drop_26 : decode cX6_drop 26 = .ok (.aload_n 0, 1) := by decide +kernel
theorem dX6_drop_27 : decode cX6_drop 27 = .ok (.getfield 16, 3) := by decide +kernel
theorem dX6_drop_30 : decode cX6_drop 30 = .ok (.getfield 130, 3) := by decide +kernel
theorem dX6_drop_33 : decode cX6_drop 33 = .ok (.iload_n 1, 1) := by decide +kernel
theorem dX6_drop_34 : decode cX6_drop 34 = .ok (.invokevirtual 195, 3) := by decide +kernel
theorem dX6_drop_37 : decode cX6_drop 37 = .ok (.ifCond .ne 23, 3) := by decide +kernel
theorem dX6_drop_40 : decode cX6_drop 40 = .ok (.aload_n 0, 1) := by decide +kernel
theorem dX6_drop_41 : decode cX6_drop 41 = .ok (.getfield 16, 3) := by decide +kernel
theorem dX6_drop_44 : decode cX6_drop 44 = .ok (.getfield 130, 3) := by decide +kernel
theorem dX6_drop_47 : decode cX6_drop 47 = .ok (.iload_n 1, 1) := by decide +kernel
theorem dX6_drop_48 : decode cX6_drop 48 = .ok (.iload_n 2, 1) := by decide +kernel
theorem dX6_drop_49 : decode cX6_drop 49 = .ok (.iload_n 3, 1) := by decide +kernel
theorem dX6_drop_50 : decode cX6_drop 50 = .ok (.invokevirtual 199, 3) := by decide +kernel
theorem dX6_drop_53 : decode cX6_drop 53 = .ok (.ifCond .eq 7, 3) := by decide +kernel
theorem dX6_drop_56 : decode cX6_drop 56 = .ok (.iconst 1, 1) := by decide +kernel
theorem dX6_drop_57 : decode cX6_drop 57 = .ok (.goto 4, 3) := by decide +kernel
theorem dX6_drop_60 : decode cX6_drop 60 = .ok (.iconst 0, 1) := by decide +kernel
theorem dX6_drop_61 : decode cX6_drop 61 = .ok (.istore 4, 2) := by decide +kernel
theorem dX6_drop_63 : decode cX6_drop 63 = .ok (.iload 4, 2) := by decide +kernel
theorem dX6_drop_65 : decode cX6_drop 65 = .ok (.ifCond .ne 16, 3) := by decide +kernel
theorem dX6_drop_68 : decode cX6_drop 68 = .ok (.aload_n 0, 1) := by decide +kernel
theorem dX6_drop_69 : decode cX6_drop 69 = .ok (.getfield 16, 3) := by decide +kernel
theorem dX6_drop_72 : decode cX6_drop 72 = .ok (.getfield 102, 3) := by decide +kernel
theorem dX6_drop_75 : decode cX6_drop 75 = .ok (.iconst 1, 1) := by decide +kernel
theorem dX6_drop_76 : decode cX6_drop 76 = .ok (.dup2, 1) := by decide +kernel
theorem dX6_drop_77 : decode cX6_drop 77 = .ok (.iaload, 1) := by decide +kernel
theorem dX6_drop_78 : decode cX6_drop 78 = .ok (.iconst 1, 1) := by decide +kernel
theorem dX6_drop_79 : decode cX6_drop 79 = .ok (.iadd, 1) := by decide +kernel
theorem dX6_drop_80 : decode cX6_drop 80 = .ok (.iastore, 1) := by decide +kernel
theorem dX6_drop_81 : decode cX6_drop 81 = .ok (.iload 4, 2) := by decide +kernel
theorem dX6_drop_83 : decode cX6_drop 83 = .ok (.ireturn, 1) := by decide +kernel
theorem dX6_end_0 : decode cX6_end 0 = .ok (.iload_n 1, 1) := by decide +kernel
theorem dX6_end_1 : decode cX6_end 1 = .ok (.invokestatic 203, 3) := by decide +kernel
theorem dX6_end_4 : decode cX6_end 4 = .ok (.aload_n 0, 1) := by decide +kernel
theorem dX6_end_5 : decode cX6_end 5 = .ok (.invokevirtual 206, 3) := by decide +kernel
theorem dX6_end_8 : decode cX6_end 8 = .ok (.istore_n 2, 1) := by decide +kernel
theorem dX6_end_9 : decode cX6_end 9 = .ok (.iload_n 2, 1) := by decide +kernel
theorem dX6_end_10 : decode cX6_end 10 = .ok (.iconst (-1), 1) := by decide +kernel
theorem dX6_end_11 : decode cX6_end 11 = .ok (.if_icmp .eq 7, 3) := by decide +kernel
theorem dX6_end_14 : decode cX6_end 14 = .ok (.iload_n 1, 1) := by decide +kernel
theorem dX6_end_15 : decode cX6_end 15 = .ok (.ifCond .ne 5, 3) := by decide +kernel
theorem dX6_end_18 : decode cX6_end 18 = .ok (.iload_n 2, 1) := by decide +kernel
theorem dX6_end_19 : decode cX6_end 19 = .ok (.ireturn, 1) := by decide +kernel
theorem dX6_end_20 : decode cX6_end 20 = .ok (.aload_n 0, 1) := by decide +kernel
theorem dX6_end_21 : decode cX6_end 21 = .ok (.invokevirtual 210, 3) := by decide +kernel
theorem dX6_end_24 : decode cX6_end 24 = .ok (.aload_n 0, 1) := by decide +kernel
theorem dX6_end_25 : decode cX6_end 25 = .ok (.getfield 26, 3) := by decide +kernel
theorem dX6_end_28 : decode cX6_end 28 = .ok (.getfield 213, 3) := by decide +kernel
theorem dX6_end_31 : decode cX6_end 31 = .ok (.iconst (-1), 1) := by decide +kernel
theorem dX6_end_32 : decode cX6_end 32 = .ok (.ixor, 1) := by decide +kernel
theorem dX6_end_33 : decode cX6_end 33 = .ok (.iand, 1) := by decide +kernel
theorem dX6_end_34 : decode cX6_end 34 = .ok (.ireturn, 1) := by decide +kernel
theorem dX6_matches_0 : decode cX6_matches 0 = .ok (.iload_n 1, 1) := by decide +kernel
theorem dX6_matches_1 : decode cX6_matches 1 = .ok (.ifCond .lt 8, 3) := by decide +kernel
theorem dX6_matches_4 : decode cX6_matches 4 = .ok (.iload_n 1, 1) := by decide +kernel
theorem dX6_matches_5 : decode cX6_matches 5 = .ok (.iconst 3, 1) := by decide +kernel
theorem dX6_matches_6 : decode cX6_matches 6 = .ok (.if_icmp .le 11, 3) := by decide +kernel
theorem dX6_matches_9 : decode cX6_matches 9 = .ok (.new 89, 3) := by decide +kernel
theorem dX6_matches_12 : decode cX6_matches 12 = .ok (.dup, 1) := by decide +kernel
theorem dX6_matches_13 : decode cX6_matches 13 = .ok (.invokespecial 91, 3) := by decide +kernel
theorem dX6_matches_16 : decode cX6_matches 16 = .ok (.athrow, 1) := by decide +kernel
theorem dX6_matches_17 : decode cX6_matches 17 = .ok (.aload_n 0, 1) := by decide +kernel
theorem dX6_matches_18 : decode cX6_matches 18 = .ok (.getfield 75, 3) := by decide +kernel
theorem dX6_matches_21 : decode cX6_matches 21 = .ok (.aload_n 0, 1) := by decide +kernel
theorem dX6_matches_22 : decode cX6_matches 22 = .ok (.getfield 50, 3) := by decide +kernel
theorem dX6_matches_25 : decode cX6_matches 25 = .ok (.aload_n 0, 1) := by decide +kernel
theorem dX6_matches_26 : decode cX6_matches 26 = .ok (.getfield 50, 3) := by decide +kernel
theorem dX6_matches_29 : decode cX6_matches 29 = .ok (.getfield 154, 3) := by decide +kernel
theorem dX6_matches_32 : decode cX6_matches 32 = .ok (.iload_n 1, 1) := by decide +kernel
theorem dX6_matches_33 : decode cX6_matches 33 = .ok (.invokevirtual 167, 3) := by decide +kernel
theorem dX6_matches_36 : decode cX6_matches 36 = .ok (.aload_n 0, 1) := by decide +kernel
theorem dX6_matches_37 : decode cX6_matches 37 = .ok (.getfield 26, 3) := by decide +kernel
theorem dX6_matches_40 : decode cX6_matches 40 = .ok (.aload_n 0, 1) := by decide +kernel
theorem dX6_matches_41 : decode cX6_matches 41 = .ok (.getfield 16, 3) := by decide +kernel
theorem dX6_matches_44 : decode cX6_matches 44 = .ok (.getfield 130, 3) := by decide +kernel
theorem dX6_matches_47 : decode cX6_matches 47 = .ok (.invokevirtual 216, 3) := by decide +kernel
theorem dX6_matches_50 : decode cX6_matches 50 = .ok (.aload_n 0, 1) := by decide +kernel
theorem dX6_matches_51 : decode cX6_matches 51 = .ok (.getfield 75, 3) := by decide +kernel
theorem dX6_matches_54 : decode cX6_matches 54 = .ok (.aload_n 0, 1) := by decide +kernel
theorem dX6_matches_55 : decode cX6_matches 55 = .ok (.getfield 26, 3) := by decide +kernel
theorem dX6_matches_58 : decode cX6_matches 58 = .ok (.aload_n 0, 1) := by decide +kernel
theorem dX6_matches_59 : decode cX6_matches 59 = .ok (.invokevirtual 210, 3) := by decide +kernel
theorem dX6_matches_62 : decode cX6_matches 62 = .ok (.invokevirtual 220, 3) := by decide +kernel
theorem dX6_matches_65 : decode cX6_matches 65 = .ok (.aload_n 0, 1) := by decide +kernel
theorem dX6_matches_66 : decode cX6_matches 66 = .ok (.getfield 26, 3) := by decide +kernel
theorem dX6_matches_69 : decode cX6_matches 69 = .ok (.getfield 136, 3) := by decide +kernel
theorem dX6_matches_72 : decode cX6_matches 72 = .ok (.ireturn, 1) := by decide +kernel
theorem dX6_mother_0 : decode cX6_mother 0 = .ok (.aload_n 0, 1) := by decide +kernel
theorem dX6_mother_1 : decode cX6_mother 1 = .ok (.iload_n 1, 1) := by decide +kernel
theorem dX6_mother_2 : decode cX6_mother 2 = .ok (.invokevirtual 142, 3) := by decide +kernel
theorem dX6_mother_5 : decode cX6_mother 5 = .ok (.iload_n 2, 1) := by decide +kernel
theorem dX6_mother_6 : decode cX6_mother 6 = .ok (.invokestatic 203, 3) := by decide +kernel
theorem dX6_mother_9 : decode cX6_mother 9 = .ok (.aload_n 0, 1) := by decide +kernel
theorem dX6_mother_10 : decode cX6_mother 10 = .ok (.getfield 16, 3) := by decide +kernel
theorem dX6_mother_13 : decode cX6_mother 13 = .ok (.getfield 130, 3) := by decide +kernel
theorem dX6_mother_16 : decode cX6_mother 16 = .ok (.iload_n 1, 1) := by decide +kernel
theorem dX6_mother_17 : decode cX6_mother 17 = .ok (.invokevirtual 195, 3) := by decide +kernel
theorem dX6_mother_20 : decode cX6_mother 20 = .ok (.ifCond .eq 5, 3) := by decide +kernel
theorem dX6_mother_23 : decode cX6_mother 23 = .ok (.iconst (-1), 1) := by decide +kernel
theorem dX6_mother_24 : decode cX6_mother 24 = .ok (.ireturn, 1) := by decide +kernel
theorem dX6_mother_25 : decode cX6_mother 25 = .ok (.aload_n 0, 1) := by decide +kernel
theorem dX6_mother_26 : decode cX6_mother 26 = .ok (.getfield 75, 3) := by decide +kernel
theorem dX6_mother_29 : decode cX6_mother 29 = .ok (.aload_n 0, 1) := by decide +kernel
theorem dX6_mother_30 : decode cX6_mother 30 = .ok (.getfield 50, 3) := by decide +kernel
theorem dX6_mother_33 : decode cX6_mother 33 = .ok (.aload_n 0, 1) := by decide +kernel
theorem dX6_mother_34 : decode cX6_mother 34 = .ok (.getfield 50, 3) := by decide +kernel
theorem dX6_mother_37 : decode cX6_mother 37 = .ok (.getfield 154, 3) := by decide +kernel
theorem dX6_mother_40 : decode cX6_mother 40 = .ok (.iconst 0, 1) := by decide +kernel
theorem dX6_mother_41 : decode cX6_mother 41 = .ok (.invokevirtual 167, 3) := by decide +kernel
theorem dX6_mother_44 : decode cX6_mother 44 = .ok (.aload_n 0, 1) := by decide +kernel
theorem dX6_mother_45 : decode cX6_mother 45 = .ok (.getfield 43, 3) := by decide +kernel
theorem dX6_mother_48 : decode cX6_mother 48 = .ok (.aload_n 0, 1) := by decide +kernel
theorem dX6_mother_49 : decode cX6_mother 49 = .ok (.getfield 75, 3) := by decide +kernel
theorem dX6_mother_52 : decode cX6_mother 52 = .ok (.aload_n 0, 1) := by decide +kernel
theorem dX6_mother_53 : decode cX6_mother 53 = .ok (.getfield 16, 3) := by decide +kernel
theorem dX6_mother_56 : decode cX6_mother 56 = .ok (.getfield 130, 3) := by decide +kernel
theorem dX6_mother_59 : decode cX6_mother 59 = .ok (.aload_n 0, 1) := by decide +kernel
theorem dX6_mother_60 : decode cX6_mother 60 = .ok (.getfield 26, 3) := by decide +kernel
theorem dX6_mother_63 : decode cX6_mother 63 = .ok (.iconst 1, 1) := by decide +kernel
theorem dX6_mother_64 : decode cX6_mother 64 = .ok (.iload_n 1, 1) := by decide +kernel
theorem dX6_mother_65 : decode cX6_mother 65 = .ok (.ishl, 1) := by decide +kernel
theorem dX6_mother_66 : decode cX6_mother 66 = .ok (.invokevirtual 224, 3) := by decide +kernel
theorem dX6_mother_69 : decode cX6_mother 69 = .ok (.aload_n 0, 1) := by decide +kernel
theorem dX6_mother_70 : decode cX6_mother 70 = .ok (.getfield 43, 3) := by decide +kernel
theorem dX6_mother_73 : decode cX6_mother 73 = .ok (.invokevirtual 228, 3) := by decide +kernel
theorem dX6_mother_76 : decode cX6_mother 76 = .ok (.istore_n 3, 1) := by decide +kernel
theorem dX6_mother_77 : decode cX6_mother 77 = .ok (.iload_n 2, 1) := by decide +kernel
theorem dX6_mother_78 : decode cX6_mother 78 = .ok (.ifCond .ne 12, 3) := by decide +kernel
theorem dX6_mother_81 : decode cX6_mother 81 = .ok (.aload_n 0, 1) := by decide +kernel
theorem dX6_mother_82 : decode cX6_mother 82 = .ok (.getfield 43, 3) := by decide +kernel
theorem dX6_mother_85 : decode cX6_mother 85 = .ok (.iload_n 3, 1) := by decide +kernel
theorem dX6_mother_86 : decode cX6_mother 86 = .ok (.invokevirtual 231, 3) := by decide +kernel
theorem dX6_mother_89 : decode cX6_mother 89 = .ok (.ireturn, 1) := by decide +kernel
theorem dX6_mother_90 : decode cX6_mother 90 = .ok (.aload_n 0, 1) := by decide +kernel
theorem dX6_mother_91 : decode cX6_mother 91 = .ok (.getfield 43, 3) := by decide +kernel
theorem dX6_mother_94 : decode cX6_mother 94 = .ok (.iload_n 3, 1) := by decide +kernel
theorem dX6_mother_95 : decode cX6_mother 95 = .ok (.invokevirtual 235, 3) := by decide +kernel
theorem dX6_mother_98 : decode cX6_mother 98 = .ok (.ireturn, 1) := by decide +kernel
theorem dX6_mothers_0 : decode cX6_mothers 0 = .ok (.iload_n 2, 1) := by decide +kernel
theorem dX6_mothers_1 : decode cX6_mothers 1 = .ok (.invokestatic 203, 3) := by decide +kernel
theorem dX6_mothers_4 : decode cX6_mothers 4 = .ok (.aload_n 0, 1) := by decide +kernel
theorem dX6_mothers_5 : decode cX6_mothers 5 = .ok (.iload_n 1, 1) := by decide +kernel
theorem dX6_mothers_6 : decode cX6_mothers 6 = .ok (.invokevirtual 238, 3) := by decide +kernel
theorem dX6_mothers_9 : decode cX6_mothers 9 = .ok (.ifCond .ne 11, 3) := by decide +kernel
theorem dX6_mothers_12 : decode cX6_mothers 12 = .ok (.new 89, 3) := by decide +kernel
theorem dX6_mothers_15 : decode cX6_mothers 15 = .ok (.dup, 1) := by decide +kernel
theorem dX6_mothers_16 : decode cX6_mothers 16 = .ok (.invokespecial 91, 3) := by decide +kernel
theorem dX6_mothers_19 : decode cX6_mothers 19 = .ok (.athrow, 1) := by decide +kernel
theorem dX6_mothers_20 : decode cX6_mothers 20 = .ok (.aload_n 0, 1) := by decide +kernel
theorem dX6_mothers_21 : decode cX6_mothers 21 = .ok (.getfield 75, 3) := by decide +kernel
theorem dX6_mothers_24 : decode cX6_mothers 24 = .ok (.aload_n 0, 1) := by decide +kernel
theorem dX6_mothers_25 : decode cX6_mothers 25 = .ok (.getfield 50, 3) := by decide +kernel
theorem dX6_mothers_28 : decode cX6_mothers 28 = .ok (.aload_n 0, 1) := by decide +kernel
theorem dX6_mothers_29 : decode cX6_mothers 29 = .ok (.getfield 50, 3) := by decide +kernel
theorem dX6_mothers_32 : decode cX6_mothers 32 = .ok (.getfield 154, 3) := by decide +kernel
theorem dX6_mothers_35 : decode cX6_mothers 35 = .ok (.iconst 0, 1) := by decide +kernel
theorem dX6_mothers_36 : decode cX6_mothers 36 = .ok (.invokevirtual 167, 3) := by decide +kernel
theorem dX6_mothers_39 : decode cX6_mothers 39 = .ok (.aload_n 0, 1) := by decide +kernel
theorem dX6_mothers_40 : decode cX6_mothers 40 = .ok (.getfield 43, 3) := by decide +kernel
theorem dX6_mothers_43 : decode cX6_mothers 43 = .ok (.aload_n 0, 1) := by decide +kernel
theorem dX6_mothers_44 : decode cX6_mothers 44 = .ok (.getfield 75, 3) := by decide +kernel
theorem dX6_mothers_47 : decode cX6_mothers 47 = .ok (.aload_n 0, 1) := by decide +kernel
theorem dX6_mothers_48 : decode cX6_mothers 48 = .ok (.getfield 16, 3) := by decide +kernel
theorem dX6_mothers_51 : decode cX6_mothers 51 = .ok (.getfield 130, 3) := by decide +kernel
theorem dX6_mothers_54 : decode cX6_mothers 54 = .ok (.aload_n 0, 1) := by decide +kernel
theorem dX6_mothers_55 : decode cX6_mothers 55 = .ok (.getfield 26, 3) := by decide +kernel
theorem dX6_mothers_58 : decode cX6_mothers 58 = .ok (.iload_n 1, 1) := by decide +kernel
theorem dX6_mothers_59 : decode cX6_mothers 59 = .ok (.invokevirtual 224, 3) := by decide +kernel
theorem dX6_mothers_62 : decode cX6_mothers 62 = .ok (.iload_n 2, 1) := by decide +kernel
theorem dX6_mothers_63 : decode cX6_mothers 63 = .ok (.ifCond .ne 11, 3) := by decide +kernel
theorem dX6_mothers_66 : decode cX6_mothers 66 = .ok (.aload_n 0, 1) := by decide +kernel
theorem dX6_mothers_67 : decode cX6_mothers 67 = .ok (.getfield 43, 3) := by decide +kernel
theorem dX6_mothers_70 : decode cX6_mothers 70 = .ok (.invokevirtual 241, 3) := by decide +kernel
theorem dX6_mothers_73 : decode cX6_mothers 73 = .ok (.ireturn, 1) := by decide +kernel
theorem dX6_mothers_74 : decode cX6_mothers 74 = .ok (.aload_n 0, 1) := by decide +kernel
theorem dX6_mothers_75 : decode cX6_mothers 75 = .ok (.getfield 43, 3) := by decide +kernel
theorem dX6_mothers_78 : decode cX6_mothers 78 = .ok (.invokevirtual 244, 3) := by decide +kernel
theorem dX6_mothers_81 : decode cX6_mothers 81 = .ok (.ireturn, 1) := by decide +kernel
theorem dX6_may_0 : decode cX6_may 0 = .ok (.aload_n 0, 1) := by decide +kernel
theorem dX6_may_1 : decode cX6_may 1 = .ok (.iload_n 1, 1) := by decide +kernel
theorem dX6_may_2 : decode cX6_may 2 = .ok (.invokevirtual 142, 3) := by decide +kernel
theorem dX6_may_5 : decode cX6_may 5 = .ok (.aload_n 0, 1) := by decide +kernel
theorem dX6_may_6 : decode cX6_may 6 = .ok (.iload_n 1, 1) := by decide +kernel
theorem dX6_may_7 : decode cX6_may 7 = .ok (.invokevirtual 247, 3) := by decide +kernel
theorem dX6_may_10 : decode cX6_may 10 = .ok (.ireturn, 1) := by decide +kernel
theorem dX6_tells_0 : decode cX6_tells 0 = .ok (.aload_n 0, 1) := by decide +kernel
theorem dX6_tells_1 : decode cX6_tells 1 = .ok (.iload_n 1, 1) := by decide +kernel
theorem dX6_tells_2 : decode cX6_tells 2 = .ok (.invokevirtual 142, 3) := by decide +kernel
theorem dX6_tells_5 : decode cX6_tells 5 = .ok (.iload_n 2, 1) := by decide +kernel
theorem dX6_tells_6 : decode cX6_tells 6 = .ok (.invokestatic 203, 3) := by decide +kernel
theorem dX6_tells_9 : decode cX6_tells 9 = .ok (.aload_n 0, 1) := by decide +kernel
theorem dX6_tells_10 : decode cX6_tells 10 = .ok (.iload_n 1, 1) := by decide +kernel
theorem dX6_tells_11 : decode cX6_tells 11 = .ok (.invokevirtual 247, 3) := by decide +kernel
theorem dX6_tells_14 : decode cX6_tells 14 = .ok (.istore_n 3, 1) := by decide +kernel
theorem dX6_tells_15 : decode cX6_tells 15 = .ok (.iconst (-1), 1) := by decide +kernel
theorem dX6_tells_16 : decode cX6_tells 16 = .ok (.istore 4, 2) := by decide +kernel
theorem dX6_tells_18 : decode cX6_tells 18 = .ok (.iconst (-1), 1) := by decide +kernel
theorem dX6_tells_19 : decode cX6_tells 19 = .ok (.istore 5, 2) := by decide +kernel
theorem dX6_tells_21 : decode cX6_tells 21 = .ok (.aload_n 0, 1) := by decide +kernel
theorem dX6_tells_22 : decode cX6_tells 22 = .ok (.getfield 26, 3) := by decide +kernel
theorem dX6_tells_25 : decode cX6_tells 25 = .ok (.aload_n 0, 1) := by decide +kernel
theorem dX6_tells_26 : decode cX6_tells 26 = .ok (.getfield 16, 3) := by decide +kernel
theorem dX6_tells_29 : decode cX6_tells 29 = .ok (.getfield 130, 3) := by decide +kernel
theorem dX6_tells_32 : decode cX6_tells 32 = .ok (.invokevirtual 216, 3) := by decide +kernel
theorem dX6_tells_35 : decode cX6_tells 35 = .ok (.aload_n 0, 1) := by decide +kernel
theorem dX6_tells_36 : decode cX6_tells 36 = .ok (.getfield 26, 3) := by decide +kernel
theorem dX6_tells_39 : decode cX6_tells 39 = .ok (.getfield 133, 3) := by decide +kernel
theorem dX6_tells_42 : decode cX6_tells 42 = .ok (.istore 6, 2) := by decide +kernel
theorem dX6_tells_44 : decode cX6_tells 44 = .ok (.iload 6, 2) := by decide +kernel
theorem dX6_tells_46 : decode cX6_tells 46 = .ok (.aload_n 0, 1) := by decide +kernel
theorem dX6_tells_47 : decode cX6_tells 47 = .ok (.getfield 50, 3) := by decide +kernel
theorem dX6_tells_50 : decode cX6_tells 50 = .ok (.getfield 124, 3) := by decide +kernel
theorem dX6_tells_53 : decode cX6_tells 53 = .ok (.if_icmp .ge 93, 3) := by decide +kernel
theorem dX6_tells_56 : decode cX6_tells 56 = .ok (.aload_n 0, 1) := by decide +kernel
theorem dX6_tells_57 : decode cX6_tells 57 = .ok (.getfield 75, 3) := by decide +kernel
theorem dX6_tells_60 : decode cX6_tells 60 = .ok (.aload_n 0, 1) := by decide +kernel
theorem dX6_tells_61 : decode cX6_tells 61 = .ok (.getfield 26, 3) := by decide +kernel
theorem dX6_tells_64 : decode cX6_tells 64 = .ok (.iload_n 1, 1) := by decide +kernel
theorem dX6_tells_65 : decode cX6_tells 65 = .ok (.aload_n 0, 1) := by decide +kernel
theorem dX6_tells_66 : decode cX6_tells 66 = .ok (.getfield 50, 3) := by decide +kernel
theorem dX6_tells_69 : decode cX6_tells 69 = .ok (.getfield 154, 3) := by decide +kernel
theorem dX6_tells_72 : decode cX6_tells 72 = .ok (.iload_n 1, 1) := by decide +kernel
theorem dX6_tells_73 : decode cX6_tells 73 = .ok (.iaload, 1) := by decide +kernel
theorem dX6_tells_74 : decode cX6_tells 74 = .ok (.invokevirtual 250, 3) := by decide +kernel
theorem dX6_tells_77 : decode cX6_tells 77 = .ok (.aload_n 0, 1) := by decide +kernel
theorem dX6_tells_78 : decode cX6_tells 78 = .ok (.getfield 75, 3) := by decide +kernel
theorem dX6_tells_81 : decode cX6_tells 81 = .ok (.getfield 254, 3) := by decide +kernel
theorem dX6_tells_84 : decode cX6_tells 84 = .ok (.iload_n 1, 1) := by decide +kernel
theorem dX6_tells_85 : decode cX6_tells 85 = .ok (.iconst 3, 1) := by decide +kernel
theorem dX6_tells_86 : decode cX6_tells 86 = .ok (.imul, 1) := by decide +kernel
theorem dX6_tells_87 : decode cX6_tells 87 = .ok (.aload_n 0, 1) := by decide +kernel
theorem dX6_tells_88 : decode cX6_tells 88 = .ok (.getfield 37, 3) := by decide +kernel
theorem dX6_tells_91 : decode cX6_tells 91 = .ok (.iconst 0, 1) := by decide +kernel
theorem dX6_tells_92 : decode cX6_tells 92 = .ok (.iconst 3, 1) := by decide +kernel
theorem dX6_tells_93 : decode cX6_tells 93 = .ok (.invokestatic 257, 3) := by decide +kernel
theorem dX6_tells_96 : decode cX6_tells 96 = .ok (.aload_n 0, 1) := by decide +kernel
theorem dX6_tells_97 : decode cX6_tells 97 = .ok (.iload_n 1, 1) := by decide +kernel
theorem dX6_tells_98 : decode cX6_tells 98 = .ok (.iload_n 3, 1) := by decide +kernel
theorem dX6_tells_99 : decode cX6_tells 99 = .ok (.invokevirtual 263, 3) := by decide +kernel
theorem dX6_tells_102 : decode cX6_tells 102 = .ok (.invokestatic 266, 3) := by decide +kernel
theorem dX6_tells_105 : decode cX6_tells 105 = .ok (.istore 7, 2) := by decide +kernel
theorem dX6_tells_107 : decode cX6_tells 107 = .ok (.iload 5, 2) := by decide +kernel
theorem dX6_tells_109 : decode cX6_tells 109 = .ok (.iconst (-1), 1) := by decide +kernel
theorem dX6_tells_110 : decode cX6_tells 110 = .ok (.if_icmp .eq 10, 3) := by decide +kernel
theorem dX6_tells_113 : decode cX6_tells 113 = .ok (.iload 7, 2) := by decide +kernel
theorem dX6_tells_115 : decode cX6_tells 115 = .ok (.iload 5, 2) := by decide +kernel
theorem dX6_tells_117 : decode cX6_tells 117 = .ok (.if_icmp .ge 11, 3) := by decide +kernel
theorem dX6_tells_120 : decode cX6_tells 120 = .ok (.iload 7, 2) := by decide +kernel
theorem dX6_tells_122 : decode cX6_tells 122 = .ok (.istore 5, 2) := by decide +kernel
theorem dX6_tells_124 : decode cX6_tells 124 = .ok (.iload 6, 2) := by decide +kernel
theorem dX6_tells_126 : decode cX6_tells 126 = .ok (.istore 4, 2) := by decide +kernel
theorem dX6_tells_128 : decode cX6_tells 128 = .ok (.aload_n 0, 1) := by decide +kernel
theorem dX6_tells_129 : decode cX6_tells 129 = .ok (.getfield 75, 3) := by decide +kernel
theorem dX6_tells_132 : decode cX6_tells 132 = .ok (.aload_n 0, 1) := by decide +kernel
theorem dX6_tells_133 : decode cX6_tells 133 = .ok (.getfield 26, 3) := by decide +kernel
theorem dX6_tells_136 : decode cX6_tells 136 = .ok (.invokevirtual 174, 3) := by decide +kernel
theorem dX6_tells_139 : decode cX6_tells 139 = .ok (.pop, 1) := by decide +kernel
theorem dX6_tells_140 : decode cX6_tells 140 = .ok (.iinc 6 1, 3) := by decide +kernel
theorem dX6_tells_143 : decode cX6_tells 143 = .ok (.goto (-99), 3) := by decide +kernel
theorem dX6_tells_146 : decode cX6_tells 146 = .ok (.iload_n 2, 1) := by decide +kernel
theorem dX6_tells_147 : decode cX6_tells 147 = .ok (.ifCond .ne 8, 3) := by decide +kernel
theorem dX6_tells_150 : decode cX6_tells 150 = .ok (.iload 4, 2) := by decide +kernel
theorem dX6_tells_152 : decode cX6_tells 152 = .ok (.goto 5, 3) := by decide +kernel
theorem dX6_tells_155 : decode cX6_tells 155 = .ok (.iload 5, 2) := by decide +kernel
theorem dX6_tells_157 : decode cX6_tells 157 = .ok (.ireturn, 1) := by decide +kernel
theorem dX6_near_0 : decode cX6_near 0 = .ok (.iload_n 1, 1) := by decide +kernel
theorem dX6_near_1 : decode cX6_near 1 = .ok (.ifCond .lt 9, 3) := by decide +kernel
theorem dX6_near_4 : decode cX6_near 4 = .ok (.iload_n 1, 1) := by decide +kernel
theorem dX6_near_5 : decode cX6_near 5 = .ok (.bipush 30, 2) := by decide +kernel
theorem dX6_near_7 : decode cX6_near 7 = .ok (.if_icmp .le 11, 3) := by decide +kernel
theorem dX6_near_10 : decode cX6_near 10 = .ok (.new 89, 3) := by decide +kernel
theorem dX6_near_13 : decode cX6_near 13 = .ok (.dup, 1) := by decide +kernel
theorem dX6_near_14 : decode cX6_near 14 = .ok (.invokespecial 91, 3) := by decide +kernel
theorem dX6_near_17 : decode cX6_near 17 = .ok (.athrow, 1) := by decide +kernel
theorem dX6_near_18 : decode cX6_near 18 = .ok (.iconst 0, 1) := by decide +kernel
theorem dX6_near_19 : decode cX6_near 19 = .ok (.istore_n 2, 1) := by decide +kernel
theorem dX6_near_20 : decode cX6_near 20 = .ok (.iconst 0, 1) := by decide +kernel
theorem dX6_near_21 : decode cX6_near 21 = .ok (.istore_n 3, 1) := by decide +kernel
theorem dX6_near_22 : decode cX6_near 22 = .ok (.iload_n 3, 1) := by decide +kernel
theorem dX6_near_23 : decode cX6_near 23 = .ok (.aload_n 0, 1) := by decide +kernel
theorem dX6_near_24 : decode cX6_near 24 = .ok (.getfield 50, 3) := by decide +kernel
theorem dX6_near_27 : decode cX6_near 27 = .ok (.getfield 112, 3) := by decide +kernel
theorem dX6_near_30 : decode cX6_near 30 = .ok (.if_icmp .ge 81, 3) := by decide +kernel
theorem dX6_near_33 : decode cX6_near 33 = .ok (.iload_n 3, 1) := by decide +kernel
theorem dX6_near_34 : decode cX6_near 34 = .ok (.iconst 1, 1) := by decide +kernel
theorem dX6_near_35 : decode cX6_near 35 = .ok (.iadd, 1) := by decide +kernel
theorem dX6_near_36 : decode cX6_near 36 = .ok (.istore 4, 2) := by decide +kernel
theorem dX6_near_38 : decode cX6_near 38 = .ok (.iload 4, 2) := by decide +kernel
theorem dX6_near_40 : decode cX6_near 40 = .ok (.aload_n 0, 1) := by decide +kernel
theorem dX6_near_41 : decode cX6_near 41 = .ok (.getfield 50, 3) := by decide +kernel
theorem dX6_near_44 : decode cX6_near 44 = .ok (.getfield 112, 3) := by decide +kernel
theorem dX6_near_47 : decode cX6_near 47 = .ok (.if_icmp .ge 58, 3) := by decide +kernel
theorem dX6_near_50 : decode cX6_near 50 = .ok (.aload_n 0, 1) := by decide +kernel
theorem dX6_near_51 : decode cX6_near 51 = .ok (.getfield 16, 3) := by decide +kernel
theorem dX6_near_54 : decode cX6_near 54 = .ok (.getfield 130, 3) := by decide +kernel
theorem dX6_near_57 : decode cX6_near 57 = .ok (.iload_n 3, 1) := by decide +kernel
theorem dX6_near_58 : decode cX6_near 58 = .ok (.invokevirtual 195, 3) := by decide +kernel
theorem dX6_near_61 : decode cX6_near 61 = .ok (.ifCond .ne 38, 3) := by decide +kernel
theorem dX6_near_64 : decode cX6_near 64 = .ok (.aload_n 0, 1) := by decide +kernel
theorem dX6_near_65 : decode cX6_near 65 = .ok (.getfield 16, 3) := by decide +kernel
theorem dX6_near_68 : decode cX6_near 68 = .ok (.getfield 130, 3) := by decide +kernel
theorem dX6_near_71 : decode cX6_near 71 = .ok (.iload 4, 2) := by decide +kernel
theorem dX6_near_73 : decode cX6_near 73 = .ok (.invokevirtual 195, 3) := by decide +kernel
theorem dX6_near_76 : decode cX6_near 76 = .ok (.ifCond .ne 23, 3) := by decide +kernel
theorem dX6_near_79 : decode cX6_near 79 = .ok (.aload_n 0, 1) := by decide +kernel
theorem dX6_near_80 : decode cX6_near 80 = .ok (.getfield 16, 3) := by decide +kernel
theorem dX6_near_83 : decode cX6_near 83 = .ok (.getfield 130, 3) := by decide +kernel
theorem dX6_near_86 : decode cX6_near 86 = .ok (.iload_n 3, 1) := by decide +kernel
theorem dX6_near_87 : decode cX6_near 87 = .ok (.iload 4, 2) := by decide +kernel
theorem dX6_near_89 : decode cX6_near 89 = .ok (.invokevirtual 163, 3) := by decide +kernel
theorem dX6_near_92 : decode cX6_near 92 = .ok (.iload_n 1, 1) := by decide +kernel
theorem dX6_near_93 : decode cX6_near 93 = .ok (.if_icmp .gt 6, 3) := by decide +kernel
theorem dX6_near_96 : decode cX6_near 96 = .ok (.iinc 2 1, 3) := by decide +kernel
theorem dX6_near_99 : decode cX6_near 99 = .ok (.iinc 4 1, 3) := by decide +kernel
theorem dX6_near_102 : decode cX6_near 102 = .ok (.goto (-64), 3) := by decide +kernel
theorem dX6_near_105 : decode cX6_near 105 = .ok (.iinc 3 1, 3) := by decide +kernel
theorem dX6_near_108 : decode cX6_near 108 = .ok (.goto (-86), 3) := by decide +kernel
theorem dX6_near_111 : decode cX6_near 111 = .ok (.iload_n 2, 1) := by decide +kernel
theorem dX6_near_112 : decode cX6_near 112 = .ok (.ireturn, 1) := by decide +kernel
theorem dX6_years_0 : decode cX6_years 0 = .ok (.aload_n 0, 1) := by decide +kernel
theorem dX6_years_1 : decode cX6_years 1 = .ok (.iload_n 1, 1) := by decide +kernel
theorem dX6_years_2 : decode cX6_years 2 = .ok (.invokevirtual 142, 3) := by decide +kernel
theorem dX6_years_5 : decode cX6_years 5 = .ok (.iload_n 3, 1) := by decide +kernel
theorem dX6_years_6 : decode cX6_years 6 = .ok (.ifCond .lt 9, 3) := by decide +kernel
theorem dX6_years_9 : decode cX6_years 9 = .ok (.iload_n 3, 1) := by decide +kernel
theorem dX6_years_10 : decode cX6_years 10 = .ok (.bipush 40, 2) := by decide +kernel
theorem dX6_years_12 : decode cX6_years 12 = .ok (.if_icmp .le 11, 3) := by decide +kernel
theorem dX6_years_15 : decode cX6_years 15 = .ok (.new 89, 3) := by decide +kernel
theorem dX6_years_18 : decode cX6_years 18 = .ok (.dup, 1) := by decide +kernel
theorem dX6_years_19 : decode cX6_years 19 = .ok (.invokespecial 91, 3) := by decide +kernel
theorem dX6_years_22 : decode cX6_years 22 = .ok (.athrow, 1) := by decide +kernel
theorem dX6_years_23 : decode cX6_years 23 = .ok (.aload_n 0, 1) := by decide +kernel
theorem dX6_years_24 : decode cX6_years 24 = .ok (.getfield 75, 3) := by decide +kernel
theorem dX6_years_27 : decode cX6_years 27 = .ok (.aload_n 0, 1) := by decide +kernel
theorem dX6_years_28 : decode cX6_years 28 = .ok (.getfield 50, 3) := by decide +kernel
theorem dX6_years_31 : decode cX6_years 31 = .ok (.aload_n 0, 1) := by decide +kernel
theorem dX6_years_32 : decode cX6_years 32 = .ok (.getfield 34, 3) := by decide +kernel
theorem dX6_years_35 : decode cX6_years 35 = .ok (.iconst 0, 1) := by decide +kernel
theorem dX6_years_36 : decode cX6_years 36 = .ok (.invokevirtual 167, 3) := by decide +kernel
theorem dX6_years_39 : decode cX6_years 39 = .ok (.iconst 0, 1) := by decide +kernel
theorem dX6_years_40 : decode cX6_years 40 = .ok (.istore 4, 2) := by decide +kernel
theorem dX6_years_42 : decode cX6_years 42 = .ok (.iload_n 2, 1) := by decide +kernel
theorem dX6_years_43 : decode cX6_years 43 = .ok (.istore 5, 2) := by decide +kernel
theorem dX6_years_45 : decode cX6_years 45 = .ok (.iconst 0, 1) := by decide +kernel
theorem dX6_years_46 : decode cX6_years 46 = .ok (.istore 6, 2) := by decide +kernel
theorem dX6_years_48 : decode cX6_years 48 = .ok (.iload 6, 2) := by decide +kernel
theorem dX6_years_50 : decode cX6_years 50 = .ok (.iload_n 3, 1) := by decide +kernel
theorem dX6_years_51 : decode cX6_years 51 = .ok (.if_icmp .ge 56, 3) := by decide +kernel
theorem dX6_years_54 : decode cX6_years 54 = .ok (.aload_n 0, 1) := by decide +kernel
theorem dX6_years_55 : decode cX6_years 55 = .ok (.iload 5, 2) := by decide +kernel
theorem dX6_years_57 : decode cX6_years 57 = .ok (.invokevirtual 271, 3) := by decide +kernel
theorem dX6_years_60 : decode cX6_years 60 = .ok (.istore 5, 2) := by decide +kernel
theorem dX6_years_62 : decode cX6_years 62 = .ok (.aload_n 0, 1) := by decide +kernel
theorem dX6_years_63 : decode cX6_years 63 = .ok (.getfield 26, 3) := by decide +kernel
theorem dX6_years_66 : decode cX6_years 66 = .ok (.aload_n 0, 1) := by decide +kernel
theorem dX6_years_67 : decode cX6_years 67 = .ok (.getfield 50, 3) := by decide +kernel
theorem dX6_years_70 : decode cX6_years 70 = .ok (.invokevirtual 274, 3) := by decide +kernel
theorem dX6_years_73 : decode cX6_years 73 = .ok (.aload_n 0, 1) := by decide +kernel
theorem dX6_years_74 : decode cX6_years 74 = .ok (.getfield 75, 3) := by decide +kernel
theorem dX6_years_77 : decode cX6_years 77 = .ok (.aload_n 0, 1) := by decide +kernel
theorem dX6_years_78 : decode cX6_years 78 = .ok (.getfield 26, 3) := by decide +kernel
theorem dX6_years_81 : decode cX6_years 81 = .ok (.iconst 1, 1) := by decide +kernel
theorem dX6_years_82 : decode cX6_years 82 = .ok (.iload_n 1, 1) := by decide +kernel
theorem dX6_years_83 : decode cX6_years 83 = .ok (.ishl, 1) := by decide +kernel
theorem dX6_years_84 : decode cX6_years 84 = .ok (.invokevirtual 220, 3) := by decide +kernel
theorem dX6_years_87 : decode cX6_years 87 = .ok (.aload_n 0, 1) := by decide +kernel
theorem dX6_years_88 : decode cX6_years 88 = .ok (.getfield 26, 3) := by decide +kernel
theorem dX6_years_91 : decode cX6_years 91 = .ok (.iload_n 1, 1) := by decide +kernel
theorem dX6_years_92 : decode cX6_years 92 = .ok (.invokevirtual 195, 3) := by decide +kernel
theorem dX6_years_95 : decode cX6_years 95 = .ok (.ifCond .ne 6, 3) := by decide +kernel
theorem dX6_years_98 : decode cX6_years 98 = .ok (.iinc 4 1, 3) := by decide +kernel
theorem dX6_years_101 : decode cX6_years 101 = .ok (.iinc 6 1, 3) := by decide +kernel
theorem dX6_years_104 : decode cX6_years 104 = .ok (.goto (-56), 3) := by decide +kernel
theorem dX6_years_107 : decode cX6_years 107 = .ok (.iload 4, 2) := by decide +kernel
theorem dX6_years_109 : decode cX6_years 109 = .ok (.ireturn, 1) := by decide +kernel
theorem dX6_image_0 : decode cX6_image 0 = .ok (.aload_n 0, 1) := by decide +kernel
theorem dX6_image_1 : decode cX6_image 1 = .ok (.getfield 20, 3) := by decide +kernel
theorem dX6_image_4 : decode cX6_image 4 = .ok (.aload_n 0, 1) := by decide +kernel
theorem dX6_image_5 : decode cX6_image 5 = .ok (.getfield 16, 3) := by decide +kernel
theorem dX6_image_8 : decode cX6_image 8 = .ok (.invokevirtual 275, 3) := by decide +kernel
theorem dX6_image_11 : decode cX6_image 11 = .ok (.aload_n 0, 1) := by decide +kernel
theorem dX6_image_12 : decode cX6_image 12 = .ok (.iconst 1, 1) := by decide +kernel
theorem dX6_image_13 : decode cX6_image 13 = .ok (.putfield 105, 3) := by decide +kernel
theorem dX6_image_16 : decode cX6_image 16 = .ok (.return_, 1) := by decide +kernel
theorem dX6_restore_0 : decode cX6_restore 0 = .ok (.aload_n 0, 1) := by decide +kernel
end
section
theorem dX6_restore_1 : decode cX6_restore 1 = .ok (.getfield 105, 3) := by decide +kernel
theorem dX6_restore_4 : decode cX6_restore 4 = .ok (.ifCond .eq 14, 3) := by decide +kernel
theorem dX6_restore_7 : decode cX6_restore 7 = .ok (.aload_n 0, 1) := by decide +kernel
theorem dX6_restore_8 : decode cX6_restore 8 = .ok (.getfield 16, 3) := by decide +kernel
theorem dX6_restore_11 : decode cX6_restore 11 = .ok (.aload_n 0, 1) := by decide +kernel
theorem dX6_restore_12 : decode cX6_restore 12 = .ok (.getfield 20, 3) := by decide +kernel
theorem dX6_restore_15 : decode cX6_restore 15 = .ok (.invokevirtual 275, 3) := by decide +kernel
theorem dX6_restore_18 : decode cX6_restore 18 = .ok (.aload_n 0, 1) := by decide +kernel
theorem dX6_restore_19 : decode cX6_restore 19 = .ok (.getfield 105, 3) := by decide +kernel
theorem dX6_restore_22 : decode cX6_restore 22 = .ok (.ireturn, 1) := by decide +kernel
theorem dX6_putBytes_0 : decode cX6_putBytes 0 = .ok (.bipush 24, 2) := by decide +kernel
theorem dX6_putBytes_2 : decode cX6_putBytes 2 = .ok (.istore_n 2, 1) := by decide +kernel
theorem dX6_putBytes_3 : decode cX6_putBytes 3 = .ok (.iload_n 2, 1) := by decide +kernel
theorem dX6_putBytes_4 : decode cX6_putBytes 4 = .ok (.ifCond .lt 45, 3) := by decide +kernel
theorem dX6_putBytes_7 : decode cX6_putBytes 7 = .ok (.aload_n 0, 1) := by decide +kernel
theorem dX6_putBytes_8 : decode cX6_putBytes 8 = .ok (.getfield 82, 3) := by decide +kernel
theorem dX6_putBytes_11 : decode cX6_putBytes 11 = .ok (.sipush 500, 3) := by decide +kernel
theorem dX6_putBytes_14 : decode cX6_putBytes 14 = .ok (.if_icmp .ge 35, 3) := by decide +kernel
theorem dX6_putBytes_17 : decode cX6_putBytes 17 = .ok (.aload_n 0, 1) := by decide +kernel
theorem dX6_putBytes_18 : decode cX6_putBytes 18 = .ok (.getfield 9, 3) := by decide +kernel
theorem dX6_putBytes_21 : decode cX6_putBytes 21 = .ok (.aload_n 0, 1) := by decide +kernel
theorem dX6_putBytes_22 : decode cX6_putBytes 22 = .ok (.getfield 82, 3) := by decide +kernel
theorem dX6_putBytes_25 : decode cX6_putBytes 25 = .ok (.iload_n 1, 1) := by decide +kernel
theorem dX6_putBytes_26 : decode cX6_putBytes 26 = .ok (.iload_n 2, 1) := by decide +kernel
theorem dX6_putBytes_27 : decode cX6_putBytes 27 = .ok (.iushr, 1) := by decide +kernel
theorem dX6_putBytes_28 : decode cX6_putBytes 28 = .ok (.sipush 255, 3) := by decide +kernel
theorem dX6_putBytes_31 : decode cX6_putBytes 31 = .ok (.iand, 1) := by decide +kernel
theorem dX6_putBytes_32 : decode cX6_putBytes 32 = .ok (.iastore, 1) := by decide +kernel
theorem dX6_putBytes_33 : decode cX6_putBytes 33 = .ok (.aload_n 0, 1) := by decide +kernel
theorem dX6_putBytes_34 : decode cX6_putBytes 34 = .ok (.dup, 1) := by decide +kernel
theorem dX6_putBytes_35 : decode cX6_putBytes 35 = .ok (.getfield 82, 3) := by decide +kernel
theorem dX6_putBytes_38 : decode cX6_putBytes 38 = .ok (.iconst 1, 1) := by decide +kernel
theorem dX6_putBytes_39 : decode cX6_putBytes 39 = .ok (.iadd, 1) := by decide +kernel
theorem dX6_putBytes_40 : decode cX6_putBytes 40 = .ok (.putfield 82, 3) := by decide +kernel
theorem dX6_putBytes_43 : decode cX6_putBytes 43 = .ok (.iinc 2 (-8), 3) := by decide +kernel
theorem dX6_putBytes_46 : decode cX6_putBytes 46 = .ok (.goto (-43), 3) := by decide +kernel
theorem dX6_putBytes_49 : decode cX6_putBytes 49 = .ok (.return_, 1) := by decide +kernel
theorem dX6_requireLamp_0 : decode cX6_requireLamp 0 = .ok (.iload_n 1, 1) := by decide +kernel
theorem dX6_requireLamp_1 : decode cX6_requireLamp 1 = .ok (.ifCond .lt 14, 3) := by decide +kernel
theorem dX6_requireLamp_4 : decode cX6_requireLamp 4 = .ok (.iload_n 1, 1) := by decide +kernel
theorem dX6_requireLamp_5 : decode cX6_requireLamp 5 = .ok (.aload_n 0, 1) := by decide +kernel
theorem dX6_requireLamp_6 : decode cX6_requireLamp 6 = .ok (.getfield 50, 3) := by decide +kernel
theorem dX6_requireLamp_9 : decode cX6_requireLamp 9 = .ok (.getfield 112, 3) := by decide +kernel
theorem dX6_requireLamp_12 : decode cX6_requireLamp 12 = .ok (.if_icmp .lt 11, 3) := by decide +kernel
theorem dX6_requireLamp_15 : decode cX6_requireLamp 15 = .ok (.new 139, 3) := by decide +kernel
theorem dX6_requireLamp_18 : decode cX6_requireLamp 18 = .ok (.dup, 1) := by decide +kernel
theorem dX6_requireLamp_19 : decode cX6_requireLamp 19 = .ok (.invokespecial 141, 3) := by decide +kernel
theorem dX6_requireLamp_22 : decode cX6_requireLamp 22 = .ok (.athrow, 1) := by decide +kernel
theorem dX6_requireLamp_23 : decode cX6_requireLamp 23 = .ok (.return_, 1) := by decide +kernel
theorem dX6_requireOil_0 : decode cX6_requireOil 0 = .ok (.iload_n 0, 1) := by decide +kernel
theorem dX6_requireOil_1 : decode cX6_requireOil 1 = .ok (.ifCond .lt 8, 3) := by decide +kernel
theorem dX6_requireOil_4 : decode cX6_requireOil 4 = .ok (.iload_n 0, 1) := by decide +kernel
theorem dX6_requireOil_5 : decode cX6_requireOil 5 = .ok (.iconst 3, 1) := by decide +kernel
theorem dX6_requireOil_6 : decode cX6_requireOil 6 = .ok (.if_icmp .lt 11, 3) := by decide +kernel
theorem dX6_requireOil_9 : decode cX6_requireOil 9 = .ok (.new 139, 3) := by decide +kernel
theorem dX6_requireOil_12 : decode cX6_requireOil 12 = .ok (.dup, 1) := by decide +kernel
theorem dX6_requireOil_13 : decode cX6_requireOil 13 = .ok (.invokespecial 141, 3) := by decide +kernel
theorem dX6_requireOil_16 : decode cX6_requireOil 16 = .ok (.athrow, 1) := by decide +kernel
theorem dX6_requireOil_17 : decode cX6_requireOil 17 = .ok (.return_, 1) := by decide +kernel
theorem dX6_requireFirstOrSecond_0 : decode cX6_requireFirstOrSecond 0 = .ok (.iload_n 0, 1) := by decide +kernel
theorem dX6_requireFirstOrSecond_1 : decode cX6_requireFirstOrSecond 1 = .ok (.ifCond .eq 16, 3) := by decide +kernel
theorem dX6_requireFirstOrSecond_4 : decode cX6_requireFirstOrSecond 4 = .ok (.iload_n 0, 1) := by decide +kernel
theorem dX6_requireFirstOrSecond_5 : decode cX6_requireFirstOrSecond 5 = .ok (.iconst 1, 1) := by decide +kernel
theorem dX6_requireFirstOrSecond_6 : decode cX6_requireFirstOrSecond 6 = .ok (.if_icmp .eq 11, 3) := by decide +kernel
theorem dX6_requireFirstOrSecond_9 : decode cX6_requireFirstOrSecond 9 = .ok (.new 139, 3) := by decide +kernel
theorem dX6_requireFirstOrSecond_12 : decode cX6_requireFirstOrSecond 12 = .ok (.dup, 1) := by decide +kernel
theorem dX6_requireFirstOrSecond_13 : decode cX6_requireFirstOrSecond 13 = .ok (.invokespecial 141, 3) := by decide +kernel
theorem dX6_requireFirstOrSecond_16 : decode cX6_requireFirstOrSecond 16 = .ok (.athrow, 1) := by decide +kernel
theorem dX6_requireFirstOrSecond_17 : decode cX6_requireFirstOrSecond 17 = .ok (.return_, 1) := by decide +kernel
theorem dX6_allLamps_0 : decode cX6_allLamps 0 = .ok (.iconst 1, 1) := by decide +kernel
theorem dX6_allLamps_1 : decode cX6_allLamps 1 = .ok (.aload_n 0, 1) := by decide +kernel
theorem dX6_allLamps_2 : decode cX6_allLamps 2 = .ok (.getfield 50, 3) := by decide +kernel
theorem dX6_allLamps_5 : decode cX6_allLamps 5 = .ok (.getfield 112, 3) := by decide +kernel
theorem dX6_allLamps_8 : decode cX6_allLamps 8 = .ok (.ishl, 1) := by decide +kernel
theorem dX6_allLamps_9 : decode cX6_allLamps 9 = .ok (.iconst 1, 1) := by decide +kernel
theorem dX6_allLamps_10 : decode cX6_allLamps 10 = .ok (.isub, 1) := by decide +kernel
theorem dX6_allLamps_11 : decode cX6_allLamps 11 = .ok (.ireturn, 1) := by decide +kernel
theorem dX6_areChildren_0 : decode cX6_areChildren 0 = .ok (.iload_n 1, 1) := by decide +kernel
theorem dX6_areChildren_1 : decode cX6_areChildren 1 = .ok (.aload_n 0, 1) := by decide +kernel
theorem dX6_areChildren_2 : decode cX6_areChildren 2 = .ok (.invokevirtual 210, 3) := by decide +kernel
theorem dX6_areChildren_5 : decode cX6_areChildren 5 = .ok (.iconst (-1), 1) := by decide +kernel
theorem dX6_areChildren_6 : decode cX6_areChildren 6 = .ok (.ixor, 1) := by decide +kernel
theorem dX6_areChildren_7 : decode cX6_areChildren 7 = .ok (.iand, 1) := by decide +kernel
theorem dX6_areChildren_8 : decode cX6_areChildren 8 = .ok (.ifCond .ne 22, 3) := by decide +kernel
theorem dX6_areChildren_11 : decode cX6_areChildren 11 = .ok (.iload_n 1, 1) := by decide +kernel
theorem dX6_areChildren_12 : decode cX6_areChildren 12 = .ok (.aload_n 0, 1) := by decide +kernel
theorem dX6_areChildren_13 : decode cX6_areChildren 13 = .ok (.getfield 16, 3) := by decide +kernel
theorem dX6_areChildren_16 : decode cX6_areChildren 16 = .ok (.getfield 130, 3) := by decide +kernel
theorem dX6_areChildren_19 : decode cX6_areChildren 19 = .ok (.getfield 213, 3) := by decide +kernel
theorem dX6_areChildren_22 : decode cX6_areChildren 22 = .ok (.iand, 1) := by decide +kernel
theorem dX6_areChildren_23 : decode cX6_areChildren 23 = .ok (.ifCond .ne 7, 3) := by decide +kernel
theorem dX6_areChildren_26 : decode cX6_areChildren 26 = .ok (.iconst 1, 1) := by decide +kernel
theorem dX6_areChildren_27 : decode cX6_areChildren 27 = .ok (.goto 4, 3) := by decide +kernel
theorem dX6_areChildren_30 : decode cX6_areChildren 30 = .ok (.iconst 0, 1) := by decide +kernel
theorem dX6_areChildren_31 : decode cX6_areChildren 31 = .ok (.istore_n 2, 1) := by decide +kernel
theorem dX6_areChildren_32 : decode cX6_areChildren 32 = .ok (.iload_n 2, 1) := by decide +kernel
theorem dX6_areChildren_33 : decode cX6_areChildren 33 = .ok (.ifCond .eq 19, 3) := by decide +kernel
theorem dX6_areChildren_36 : decode cX6_areChildren 36 = .ok (.iload_n 1, 1) := by decide +kernel
theorem dX6_areChildren_37 : decode cX6_areChildren 37 = .ok (.ifCond .eq 15, 3) := by decide +kernel
theorem dX6_areChildren_40 : decode cX6_areChildren 40 = .ok (.iload_n 1, 1) := by decide +kernel
theorem dX6_areChildren_41 : decode cX6_areChildren 41 = .ok (.invokestatic 266, 3) := by decide +kernel
theorem dX6_areChildren_44 : decode cX6_areChildren 44 = .ok (.iconst 3, 1) := by decide +kernel
theorem dX6_areChildren_45 : decode cX6_areChildren 45 = .ok (.if_icmp .gt 7, 3) := by decide +kernel
theorem dX6_areChildren_48 : decode cX6_areChildren 48 = .ok (.iconst 1, 1) := by decide +kernel
theorem dX6_areChildren_49 : decode cX6_areChildren 49 = .ok (.goto 4, 3) := by decide +kernel
theorem dX6_areChildren_52 : decode cX6_areChildren 52 = .ok (.iconst 0, 1) := by decide +kernel
theorem dX6_areChildren_53 : decode cX6_areChildren 53 = .ok (.ireturn, 1) := by decide +kernel
theorem dX6_findRound_0 : decode cX6_findRound 0 = .ok (.aload_n 0, 1) := by decide +kernel
theorem dX6_findRound_1 : decode cX6_findRound 1 = .ok (.getfield 75, 3) := by decide +kernel
theorem dX6_findRound_4 : decode cX6_findRound 4 = .ok (.aload_n 0, 1) := by decide +kernel
theorem dX6_findRound_5 : decode cX6_findRound 5 = .ok (.getfield 50, 3) := by decide +kernel
theorem dX6_findRound_8 : decode cX6_findRound 8 = .ok (.aload_n 0, 1) := by decide +kernel
theorem dX6_findRound_9 : decode cX6_findRound 9 = .ok (.getfield 50, 3) := by decide +kernel
theorem dX6_findRound_12 : decode cX6_findRound 12 = .ok (.getfield 154, 3) := by decide +kernel
theorem dX6_findRound_15 : decode cX6_findRound 15 = .ok (.iconst 0, 1) := by decide +kernel
theorem dX6_findRound_16 : decode cX6_findRound 16 = .ok (.invokevirtual 167, 3) := by decide +kernel
theorem dX6_findRound_19 : decode cX6_findRound 19 = .ok (.aload_n 0, 1) := by decide +kernel
theorem dX6_findRound_20 : decode cX6_findRound 20 = .ok (.getfield 26, 3) := by decide +kernel
theorem dX6_findRound_23 : decode cX6_findRound 23 = .ok (.aload_n 0, 1) := by decide +kernel
theorem dX6_findRound_24 : decode cX6_findRound 24 = .ok (.getfield 16, 3) := by decide +kernel
theorem dX6_findRound_27 : decode cX6_findRound 27 = .ok (.getfield 130, 3) := by decide +kernel
theorem dX6_findRound_30 : decode cX6_findRound 30 = .ok (.invokevirtual 216, 3) := by decide +kernel
theorem dX6_findRound_33 : decode cX6_findRound 33 = .ok (.aload_n 0, 1) := by decide +kernel
theorem dX6_findRound_34 : decode cX6_findRound 34 = .ok (.getfield 26, 3) := by decide +kernel
theorem dX6_findRound_37 : decode cX6_findRound 37 = .ok (.getfield 133, 3) := by decide +kernel
theorem dX6_findRound_40 : decode cX6_findRound 40 = .ok (.istore_n 1, 1) := by decide +kernel
theorem dX6_findRound_41 : decode cX6_findRound 41 = .ok (.iload_n 1, 1) := by decide +kernel
theorem dX6_findRound_42 : decode cX6_findRound 42 = .ok (.bipush 100, 2) := by decide +kernel
theorem dX6_findRound_44 : decode cX6_findRound 44 = .ok (.if_icmp .ge 21, 3) := by decide +kernel
theorem dX6_findRound_47 : decode cX6_findRound 47 = .ok (.aload_n 0, 1) := by decide +kernel
theorem dX6_findRound_48 : decode cX6_findRound 48 = .ok (.getfield 75, 3) := by decide +kernel
theorem dX6_findRound_51 : decode cX6_findRound 51 = .ok (.aload_n 0, 1) := by decide +kernel
theorem dX6_findRound_52 : decode cX6_findRound 52 = .ok (.getfield 26, 3) := by decide +kernel
theorem dX6_findRound_55 : decode cX6_findRound 55 = .ok (.invokevirtual 174, 3) := by decide +kernel
theorem dX6_findRound_58 : decode cX6_findRound 58 = .ok (.pop, 1) := by decide +kernel
theorem dX6_findRound_59 : decode cX6_findRound 59 = .ok (.iinc 1 1, 3) := by decide +kernel
theorem dX6_findRound_62 : decode cX6_findRound 62 = .ok (.goto (-21), 3) := by decide +kernel
theorem dX6_findRound_65 : decode cX6_findRound 65 = .ok (.aload_n 0, 1) := by decide +kernel
theorem dX6_findRound_66 : decode cX6_findRound 66 = .ok (.getfield 30, 3) := by decide +kernel
theorem dX6_findRound_69 : decode cX6_findRound 69 = .ok (.iconst 0, 1) := by decide +kernel
theorem dX6_findRound_70 : decode cX6_findRound 70 = .ok (.aload_n 0, 1) := by decide +kernel
theorem dX6_findRound_71 : decode cX6_findRound 71 = .ok (.getfield 26, 3) := by decide +kernel
theorem dX6_findRound_74 : decode cX6_findRound 74 = .ok (.invokevirtual 278, 3) := by decide +kernel
theorem dX6_findRound_77 : decode cX6_findRound 77 = .ok (.lastore, 1) := by decide +kernel
theorem dX6_findRound_78 : decode cX6_findRound 78 = .ok (.iconst 0, 1) := by decide +kernel
theorem dX6_findRound_79 : decode cX6_findRound 79 = .ok (.istore_n 1, 1) := by decide +kernel
theorem dX6_findRound_80 : decode cX6_findRound 80 = .ok (.iconst 1, 1) := by decide +kernel
theorem dX6_findRound_81 : decode cX6_findRound 81 = .ok (.istore_n 2, 1) := by decide +kernel
theorem dX6_findRound_82 : decode cX6_findRound 82 = .ok (.iload_n 2, 1) := by decide +kernel
theorem dX6_findRound_83 : decode cX6_findRound 83 = .ok (.sipush 1000, 3) := by decide +kernel
theorem dX6_findRound_86 : decode cX6_findRound 86 = .ok (.if_icmp .gt 94, 3) := by decide +kernel
theorem dX6_findRound_89 : decode cX6_findRound 89 = .ok (.aload_n 0, 1) := by decide +kernel
theorem dX6_findRound_90 : decode cX6_findRound 90 = .ok (.getfield 26, 3) := by decide +kernel
theorem dX6_findRound_93 : decode cX6_findRound 93 = .ok (.getfield 136, 3) := by decide +kernel
theorem dX6_findRound_96 : decode cX6_findRound 96 = .ok (.istore_n 3, 1) := by decide +kernel
theorem dX6_findRound_97 : decode cX6_findRound 97 = .ok (.aload_n 0, 1) := by decide +kernel
theorem dX6_findRound_98 : decode cX6_findRound 98 = .ok (.getfield 75, 3) := by decide +kernel
theorem dX6_findRound_101 : decode cX6_findRound 101 = .ok (.aload_n 0, 1) := by decide +kernel
theorem dX6_findRound_102 : decode cX6_findRound 102 = .ok (.getfield 26, 3) := by decide +kernel
theorem dX6_findRound_105 : decode cX6_findRound 105 = .ok (.invokevirtual 174, 3) := by decide +kernel
theorem dX6_findRound_108 : decode cX6_findRound 108 = .ok (.pop, 1) := by decide +kernel
theorem dX6_findRound_109 : decode cX6_findRound 109 = .ok (.aload_n 0, 1) := by decide +kernel
theorem dX6_findRound_110 : decode cX6_findRound 110 = .ok (.getfield 26, 3) := by decide +kernel
theorem dX6_findRound_113 : decode cX6_findRound 113 = .ok (.getfield 136, 3) := by decide +kernel
theorem dX6_findRound_116 : decode cX6_findRound 116 = .ok (.iload_n 3, 1) := by decide +kernel
theorem dX6_findRound_117 : decode cX6_findRound 117 = .ok (.if_icmp .eq 5, 3) := by decide +kernel
theorem dX6_findRound_120 : decode cX6_findRound 120 = .ok (.iload_n 2, 1) := by decide +kernel
theorem dX6_findRound_121 : decode cX6_findRound 121 = .ok (.istore_n 1, 1) := by decide +kernel
theorem dX6_findRound_122 : decode cX6_findRound 122 = .ok (.aload_n 0, 1) := by decide +kernel
theorem dX6_findRound_123 : decode cX6_findRound 123 = .ok (.getfield 30, 3) := by decide +kernel
theorem dX6_findRound_126 : decode cX6_findRound 126 = .ok (.iload_n 2, 1) := by decide +kernel
theorem dX6_findRound_127 : decode cX6_findRound 127 = .ok (.aload_n 0, 1) := by decide +kernel
theorem dX6_findRound_128 : decode cX6_findRound 128 = .ok (.getfield 26, 3) := by decide +kernel
theorem dX6_findRound_131 : decode cX6_findRound 131 = .ok (.invokevirtual 278, 3) := by decide +kernel
theorem dX6_findRound_134 : decode cX6_findRound 134 = .ok (.lastore, 1) := by decide +kernel
theorem dX6_findRound_135 : decode cX6_findRound 135 = .ok (.iload_n 2, 1) := by decide +kernel
theorem dX6_findRound_136 : decode cX6_findRound 136 = .ok (.iconst 2, 1) := by decide +kernel
theorem dX6_findRound_137 : decode cX6_findRound 137 = .ok (.isub, 1) := by decide +kernel
theorem dX6_findRound_138 : decode cX6_findRound 138 = .ok (.istore 4, 2) := by decide +kernel
theorem dX6_findRound_140 : decode cX6_findRound 140 = .ok (.iload 4, 2) := by decide +kernel
theorem dX6_findRound_142 : decode cX6_findRound 142 = .ok (.iload_n 1, 1) := by decide +kernel
theorem dX6_findRound_143 : decode cX6_findRound 143 = .ok (.if_icmp .lt 31, 3) := by decide +kernel
theorem dX6_findRound_146 : decode cX6_findRound 146 = .ok (.aload_n 0, 1) := by decide +kernel
theorem dX6_findRound_147 : decode cX6_findRound 147 = .ok (.getfield 30, 3) := by decide +kernel
theorem dX6_findRound_150 : decode cX6_findRound 150 = .ok (.iload 4, 2) := by decide +kernel
theorem dX6_findRound_152 : decode cX6_findRound 152 = .ok (.laload, 1) := by decide +kernel
theorem dX6_findRound_153 : decode cX6_findRound 153 = .ok (.aload_n 0, 1) := by decide +kernel
theorem dX6_findRound_154 : decode cX6_findRound 154 = .ok (.getfield 30, 3) := by decide +kernel
theorem dX6_findRound_157 : decode cX6_findRound 157 = .ok (.iload_n 2, 1) := by decide +kernel
theorem dX6_findRound_158 : decode cX6_findRound 158 = .ok (.laload, 1) := by decide +kernel
theorem dX6_findRound_159 : decode cX6_findRound 159 = .ok (.lcmp, 1) := by decide +kernel
theorem dX6_findRound_160 : decode cX6_findRound 160 = .ok (.ifCond .ne 8, 3) := by decide +kernel
theorem dX6_findRound_163 : decode cX6_findRound 163 = .ok (.iload_n 2, 1) := by decide +kernel
theorem dX6_findRound_164 : decode cX6_findRound 164 = .ok (.iload 4, 2) := by decide +kernel
theorem dX6_findRound_166 : decode cX6_findRound 166 = .ok (.isub, 1) := by decide +kernel
theorem dX6_findRound_167 : decode cX6_findRound 167 = .ok (.ireturn, 1) := by decide +kernel
theorem dX6_findRound_168 : decode cX6_findRound 168 = .ok (.iinc 4 (-2), 3) := by decide +kernel
theorem dX6_findRound_171 : decode cX6_findRound 171 = .ok (.goto (-31), 3) := by decide +kernel
theorem dX6_findRound_174 : decode cX6_findRound 174 = .ok (.iinc 2 1, 3) := by decide +kernel
theorem dX6_findRound_177 : decode cX6_findRound 177 = .ok (.goto (-95), 3) := by decide +kernel
theorem dX6_findRound_180 : decode cX6_findRound 180 = .ok (.iconst (-1), 1) := by decide +kernel
theorem dX6_findRound_181 : decode cX6_findRound 181 = .ok (.ireturn, 1) := by decide +kernel
theorem dX6_leftByBook_0 : decode cX6_leftByBook 0 = .ok (.aload_n 0, 1) := by decide +kernel
theorem dX6_leftByBook_1 : decode cX6_leftByBook 1 = .ok (.getfield 75, 3) := by decide +kernel
theorem dX6_leftByBook_4 : decode cX6_leftByBook 4 = .ok (.aload_n 0, 1) := by decide +kernel
theorem dX6_leftByBook_5 : decode cX6_leftByBook 5 = .ok (.getfield 50, 3) := by decide +kernel
theorem dX6_leftByBook_8 : decode cX6_leftByBook 8 = .ok (.aload_n 0, 1) := by decide +kernel
theorem dX6_leftByBook_9 : decode cX6_leftByBook 9 = .ok (.getfield 50, 3) := by decide +kernel
theorem dX6_leftByBook_12 : decode cX6_leftByBook 12 = .ok (.getfield 154, 3) := by decide +kernel
theorem dX6_leftByBook_15 : decode cX6_leftByBook 15 = .ok (.iconst 0, 1) := by decide +kernel
theorem dX6_leftByBook_16 : decode cX6_leftByBook 16 = .ok (.invokevirtual 167, 3) := by decide +kernel
theorem dX6_leftByBook_19 : decode cX6_leftByBook 19 = .ok (.aload_n 0, 1) := by decide +kernel
theorem dX6_leftByBook_20 : decode cX6_leftByBook 20 = .ok (.invokevirtual 210, 3) := by decide +kernel
theorem dX6_leftByBook_23 : decode cX6_leftByBook 23 = .ok (.iconst 1, 1) := by decide +kernel
theorem dX6_leftByBook_24 : decode cX6_leftByBook 24 = .ok (.iload_n 1, 1) := by decide +kernel
theorem dX6_leftByBook_25 : decode cX6_leftByBook 25 = .ok (.ishl, 1) := by decide +kernel
theorem dX6_leftByBook_26 : decode cX6_leftByBook 26 = .ok (.iconst (-1), 1) := by decide +kernel
theorem dX6_leftByBook_27 : decode cX6_leftByBook 27 = .ok (.ixor, 1) := by decide +kernel
theorem dX6_leftByBook_28 : decode cX6_leftByBook 28 = .ok (.iand, 1) := by decide +kernel
theorem dX6_leftByBook_29 : decode cX6_leftByBook 29 = .ok (.bipush 64, 2) := by decide +kernel
theorem dX6_leftByBook_31 : decode cX6_leftByBook 31 = .ok (.ior, 1) := by decide +kernel
theorem dX6_leftByBook_32 : decode cX6_leftByBook 32 = .ok (.istore_n 2, 1) := by decide +kernel
theorem dX6_leftByBook_33 : decode cX6_leftByBook 33 = .ok (.iconst 0, 1) := by decide +kernel
theorem dX6_leftByBook_34 : decode cX6_leftByBook 34 = .ok (.istore_n 3, 1) := by decide +kernel
theorem dX6_leftByBook_35 : decode cX6_leftByBook 35 = .ok (.iload_n 3, 1) := by decide +kernel
theorem dX6_leftByBook_36 : decode cX6_leftByBook 36 = .ok (.aload_n 0, 1) := by decide +kernel
theorem dX6_leftByBook_37 : decode cX6_leftByBook 37 = .ok (.getfield 16, 3) := by decide +kernel
theorem dX6_leftByBook_40 : decode cX6_leftByBook 40 = .ok (.getfield 130, 3) := by decide +kernel
theorem dX6_leftByBook_43 : decode cX6_leftByBook 43 = .ok (.getfield 133, 3) := by decide +kernel
theorem dX6_leftByBook_46 : decode cX6_leftByBook 46 = .ok (.if_icmp .ge 41, 3) := by decide +kernel
theorem dX6_leftByBook_49 : decode cX6_leftByBook 49 = .ok (.aload_n 0, 1) := by decide +kernel
theorem dX6_leftByBook_50 : decode cX6_leftByBook 50 = .ok (.getfield 16, 3) := by decide +kernel
theorem dX6_leftByBook_53 : decode cX6_leftByBook 53 = .ok (.iload_n 3, 1) := by decide +kernel
theorem dX6_leftByBook_54 : decode cX6_leftByBook 54 = .ok (.aload_n 0, 1) := by decide +kernel
theorem dX6_leftByBook_55 : decode cX6_leftByBook 55 = .ok (.getfield 26, 3) := by decide +kernel
theorem dX6_leftByBook_58 : decode cX6_leftByBook 58 = .ok (.invokevirtual 282, 3) := by decide +kernel
theorem dX6_leftByBook_61 : decode cX6_leftByBook 61 = .ok (.aload_n 0, 1) := by decide +kernel
theorem dX6_leftByBook_62 : decode cX6_leftByBook 62 = .ok (.getfield 16, 3) := by decide +kernel
theorem dX6_leftByBook_65 : decode cX6_leftByBook 65 = .ok (.iload_n 3, 1) := by decide +kernel
theorem dX6_leftByBook_66 : decode cX6_leftByBook 66 = .ok (.iload_n 1, 1) := by decide +kernel
theorem dX6_leftByBook_67 : decode cX6_leftByBook 67 = .ok (.aload_n 0, 1) := by decide +kernel
theorem dX6_leftByBook_68 : decode cX6_leftByBook 68 = .ok (.getfield 37, 3) := by decide +kernel
theorem dX6_leftByBook_71 : decode cX6_leftByBook 71 = .ok (.invokevirtual 286, 3) := by decide +kernel
theorem dX6_leftByBook_74 : decode cX6_leftByBook 74 = .ok (.aload_n 0, 1) := by decide +kernel
theorem dX6_leftByBook_75 : decode cX6_leftByBook 75 = .ok (.iload_n 1, 1) := by decide +kernel
theorem dX6_leftByBook_76 : decode cX6_leftByBook 76 = .ok (.iload_n 2, 1) := by decide +kernel
theorem dX6_leftByBook_77 : decode cX6_leftByBook 77 = .ok (.invokevirtual 263, 3) := by decide +kernel
theorem dX6_leftByBook_80 : decode cX6_leftByBook 80 = .ok (.istore_n 2, 1) := by decide +kernel
theorem dX6_leftByBook_81 : decode cX6_leftByBook 81 = .ok (.iinc 3 1, 3) := by decide +kernel
theorem dX6_leftByBook_84 : decode cX6_leftByBook 84 = .ok (.goto (-49), 3) := by decide +kernel
theorem dX6_leftByBook_87 : decode cX6_leftByBook 87 = .ok (.iload_n 2, 1) := by decide +kernel
theorem dX6_leftByBook_88 : decode cX6_leftByBook 88 = .ok (.ireturn, 1) := by decide +kernel
theorem dX6_leftByNight_0 : decode cX6_leftByNight 0 = .ok (.iload_n 2, 1) := by decide +kernel
theorem dX6_leftByNight_1 : decode cX6_leftByNight 1 = .ok (.istore_n 3, 1) := by decide +kernel
theorem dX6_leftByNight_2 : decode cX6_leftByNight 2 = .ok (.iconst 0, 1) := by decide +kernel
theorem dX6_leftByNight_3 : decode cX6_leftByNight 3 = .ok (.istore 4, 2) := by decide +kernel
theorem dX6_leftByNight_5 : decode cX6_leftByNight 5 = .ok (.iload 4, 2) := by decide +kernel
theorem dX6_leftByNight_7 : decode cX6_leftByNight 7 = .ok (.bipush 6, 2) := by decide +kernel
theorem dX6_leftByNight_9 : decode cX6_leftByNight 9 = .ok (.if_icmp .gt 60, 3) := by decide +kernel
theorem dX6_leftByNight_12 : decode cX6_leftByNight 12 = .ok (.iload_n 3, 1) := by decide +kernel
theorem dX6_leftByNight_13 : decode cX6_leftByNight 13 = .ok (.iload 4, 2) := by decide +kernel
theorem dX6_leftByNight_15 : decode cX6_leftByNight 15 = .ok (.iushr, 1) := by decide +kernel
theorem dX6_leftByNight_16 : decode cX6_leftByNight 16 = .ok (.iconst 1, 1) := by decide +kernel
theorem dX6_leftByNight_17 : decode cX6_leftByNight 17 = .ok (.iand, 1) := by decide +kernel
theorem dX6_leftByNight_18 : decode cX6_leftByNight 18 = .ok (.ifCond .eq 45, 3) := by decide +kernel
theorem dX6_leftByNight_21 : decode cX6_leftByNight 21 = .ok (.aload_n 0, 1) := by decide +kernel
theorem dX6_leftByNight_22 : decode cX6_leftByNight 22 = .ok (.getfield 75, 3) := by decide +kernel
theorem dX6_leftByNight_25 : decode cX6_leftByNight 25 = .ok (.aload_n 0, 1) := by decide +kernel
theorem dX6_leftByNight_26 : decode cX6_leftByNight 26 = .ok (.getfield 26, 3) := by decide +kernel
theorem dX6_leftByNight_29 : decode cX6_leftByNight 29 = .ok (.iload_n 1, 1) := by decide +kernel
theorem dX6_leftByNight_30 : decode cX6_leftByNight 30 = .ok (.iload 4, 2) := by decide +kernel
theorem dX6_leftByNight_32 : decode cX6_leftByNight 32 = .ok (.bipush 6, 2) := by decide +kernel
theorem dX6_leftByNight_34 : decode cX6_leftByNight 34 = .ok (.if_icmp .ne 7, 3) := by decide +kernel
theorem dX6_leftByNight_37 : decode cX6_leftByNight 37 = .ok (.iconst (-1), 1) := by decide +kernel
theorem dX6_leftByNight_38 : decode cX6_leftByNight 38 = .ok (.goto 5, 3) := by decide +kernel
theorem dX6_leftByNight_41 : decode cX6_leftByNight 41 = .ok (.iload 4, 2) := by decide +kernel
theorem dX6_leftByNight_43 : decode cX6_leftByNight 43 = .ok (.invokevirtual 250, 3) := by decide +kernel
theorem dX6_leftByNight_46 : decode cX6_leftByNight 46 = .ok (.aload_n 0, 1) := by decide +kernel
theorem dX6_leftByNight_47 : decode cX6_leftByNight 47 = .ok (.iload_n 1, 1) := by decide +kernel
theorem dX6_leftByNight_48 : decode cX6_leftByNight 48 = .ok (.invokevirtual 290, 3) := by decide +kernel
theorem dX6_leftByNight_51 : decode cX6_leftByNight 51 = .ok (.ifCond .ne 12, 3) := by decide +kernel
theorem dX6_leftByNight_54 : decode cX6_leftByNight 54 = .ok (.iload_n 3, 1) := by decide +kernel
theorem dX6_leftByNight_55 : decode cX6_leftByNight 55 = .ok (.iconst 1, 1) := by decide +kernel
theorem dX6_leftByNight_56 : decode cX6_leftByNight 56 = .ok (.iload 4, 2) := by decide +kernel
theorem dX6_leftByNight_58 : decode cX6_leftByNight 58 = .ok (.ishl, 1) := by decide +kernel
theorem dX6_leftByNight_59 : decode cX6_leftByNight 59 = .ok (.iconst (-1), 1) := by decide +kernel
theorem dX6_leftByNight_60 : decode cX6_leftByNight 60 = .ok (.ixor, 1) := by decide +kernel
theorem dX6_leftByNight_61 : decode cX6_leftByNight 61 = .ok (.iand, 1) := by decide +kernel
theorem dX6_leftByNight_62 : decode cX6_leftByNight 62 = .ok (.istore_n 3, 1) := by decide +kernel
theorem dX6_leftByNight_63 : decode cX6_leftByNight 63 = .ok (.iinc 4 1, 3) := by decide +kernel
theorem dX6_leftByNight_66 : decode cX6_leftByNight 66 = .ok (.goto (-61), 3) := by decide +kernel
theorem dX6_leftByNight_69 : decode cX6_leftByNight 69 = .ok (.iload_n 3, 1) := by decide +kernel
theorem dX6_leftByNight_70 : decode cX6_leftByNight 70 = .ok (.ireturn, 1) := by decide +kernel
theorem dX6_isSeen_0 : decode cX6_isSeen 0 = .ok (.iconst 0, 1) := by decide +kernel
theorem dX6_isSeen_1 : decode cX6_isSeen 1 = .ok (.istore_n 2, 1) := by decide +kernel
theorem dX6_isSeen_2 : decode cX6_isSeen 2 = .ok (.iload_n 2, 1) := by decide +kernel
theorem dX6_isSeen_3 : decode cX6_isSeen 3 = .ok (.iconst 3, 1) := by decide +kernel
theorem dX6_isSeen_4 : decode cX6_isSeen 4 = .ok (.if_icmp .ge 33, 3) := by decide +kernel
theorem dX6_isSeen_7 : decode cX6_isSeen 7 = .ok (.aload_n 0, 1) := by decide +kernel
theorem dX6_isSeen_8 : decode cX6_isSeen 8 = .ok (.getfield 75, 3) := by decide +kernel
theorem dX6_isSeen_11 : decode cX6_isSeen 11 = .ok (.getfield 254, 3) := by decide +kernel
theorem dX6_isSeen_14 : decode cX6_isSeen 14 = .ok (.iload_n 1, 1) := by decide +kernel
theorem dX6_isSeen_15 : decode cX6_isSeen 15 = .ok (.iconst 3, 1) := by decide +kernel
theorem dX6_isSeen_16 : decode cX6_isSeen 16 = .ok (.imul, 1) := by decide +kernel
theorem dX6_isSeen_17 : decode cX6_isSeen 17 = .ok (.iload_n 2, 1) := by decide +kernel
theorem dX6_isSeen_18 : decode cX6_isSeen 18 = .ok (.iadd, 1) := by decide +kernel
theorem dX6_isSeen_19 : decode cX6_isSeen 19 = .ok (.iaload, 1) := by decide +kernel
theorem dX6_isSeen_20 : decode cX6_isSeen 20 = .ok (.aload_n 0, 1) := by decide +kernel
theorem dX6_isSeen_21 : decode cX6_isSeen 21 = .ok (.getfield 37, 3) := by decide +kernel
theorem dX6_isSeen_24 : decode cX6_isSeen 24 = .ok (.iload_n 2, 1) := by decide +kernel
theorem dX6_isSeen_25 : decode cX6_isSeen 25 = .ok (.iaload, 1) := by decide +kernel
theorem dX6_isSeen_26 : decode cX6_isSeen 26 = .ok (.if_icmp .eq 5, 3) := by decide +kernel
theorem dX6_isSeen_29 : decode cX6_isSeen 29 = .ok (.iconst 0, 1) := by decide +kernel
theorem dX6_isSeen_30 : decode cX6_isSeen 30 = .ok (.ireturn, 1) := by decide +kernel
theorem dX6_isSeen_31 : decode cX6_isSeen 31 = .ok (.iinc 2 1, 3) := by decide +kernel
theorem dX6_isSeen_34 : decode cX6_isSeen 34 = .ok (.goto (-32), 3) := by decide +kernel
theorem dX6_isSeen_37 : decode cX6_isSeen 37 = .ok (.iconst 1, 1) := by decide +kernel
theorem dX6_isSeen_38 : decode cX6_isSeen 38 = .ok (.ireturn, 1) := by decide +kernel
theorem dX6_drawLikes_0 : decode cX6_drawLikes 0 = .ok (.iload_n 1, 1) := by decide +kernel
theorem dX6_drawLikes_1 : decode cX6_drawLikes 1 = .ok (.istore_n 2, 1) := by decide +kernel
theorem dX6_drawLikes_2 : decode cX6_drawLikes 2 = .ok (.iconst 0, 1) := by decide +kernel
theorem dX6_drawLikes_3 : decode cX6_drawLikes 3 = .ok (.istore_n 3, 1) := by decide +kernel
theorem dX6_drawLikes_4 : decode cX6_drawLikes 4 = .ok (.iload_n 3, 1) := by decide +kernel
theorem dX6_drawLikes_5 : decode cX6_drawLikes 5 = .ok (.aload_n 0, 1) := by decide +kernel
theorem dX6_drawLikes_6 : decode cX6_drawLikes 6 = .ok (.getfield 50, 3) := by decide +kernel
theorem dX6_drawLikes_9 : decode cX6_drawLikes 9 = .ok (.getfield 112, 3) := by decide +kernel
theorem dX6_drawLikes_12 : decode cX6_drawLikes 12 = .ok (.if_icmp .ge 79, 3) := by decide +kernel
theorem dX6_drawLikes_15 : decode cX6_drawLikes 15 = .ok (.aload_n 0, 1) := by decide +kernel
theorem dX6_drawLikes_16 : decode cX6_drawLikes 16 = .ok (.getfield 50, 3) := by decide +kernel
theorem dX6_drawLikes_19 : decode cX6_drawLikes 19 = .ok (.iload_n 3, 1) := by decide +kernel
theorem dX6_drawLikes_20 : decode cX6_drawLikes 20 = .ok (.invokevirtual 293, 3) := by decide +kernel
theorem dX6_drawLikes_23 : decode cX6_drawLikes 23 = .ok (.istore 4, 2) := by decide +kernel
theorem dX6_drawLikes_25 : decode cX6_drawLikes 25 = .ok (.aload_n 0, 1) := by decide +kernel
theorem dX6_drawLikes_26 : decode cX6_drawLikes 26 = .ok (.getfield 34, 3) := by decide +kernel
theorem dX6_drawLikes_29 : decode cX6_drawLikes 29 = .ok (.iload_n 3, 1) := by decide +kernel
theorem dX6_drawLikes_30 : decode cX6_drawLikes 30 = .ok (.iconst (-1), 1) := by decide +kernel
theorem dX6_drawLikes_31 : decode cX6_drawLikes 31 = .ok (.iastore, 1) := by decide +kernel
theorem dX6_drawLikes_32 : decode cX6_drawLikes 32 = .ok (.aload_n 0, 1) := by decide +kernel
theorem dX6_drawLikes_33 : decode cX6_drawLikes 33 = .ok (.getfield 50, 3) := by decide +kernel
theorem dX6_drawLikes_36 : decode cX6_drawLikes 36 = .ok (.getfield 145, 3) := by decide +kernel
theorem dX6_drawLikes_39 : decode cX6_drawLikes 39 = .ok (.iload_n 3, 1) := by decide +kernel
theorem dX6_drawLikes_40 : decode cX6_drawLikes 40 = .ok (.iaload, 1) := by decide +kernel
theorem dX6_drawLikes_41 : decode cX6_drawLikes 41 = .ok (.iconst 4, 1) := by decide +kernel
theorem dX6_drawLikes_42 : decode cX6_drawLikes 42 = .ok (.if_icmp .eq 43, 3) := by decide +kernel
theorem dX6_drawLikes_45 : decode cX6_drawLikes 45 = .ok (.iload 4, 2) := by decide +kernel
theorem dX6_drawLikes_47 : decode cX6_drawLikes 47 = .ok (.ifCond .le 38, 3) := by decide +kernel
theorem dX6_drawLikes_50 : decode cX6_drawLikes 50 = .ok (.iload_n 2, 1) := by decide +kernel
theorem dX6_drawLikes_51 : decode cX6_drawLikes 51 = .ok (.ldc_w 296, 3) := by decide +kernel
theorem dX6_drawLikes_54 : decode cX6_drawLikes 54 = .ok (.imul, 1) := by decide +kernel
theorem dX6_drawLikes_55 : decode cX6_drawLikes 55 = .ok (.sipush 12345, 3) := by decide +kernel
theorem dX6_drawLikes_58 : decode cX6_drawLikes 58 = .ok (.iadd, 1) := by decide +kernel
theorem dX6_drawLikes_59 : decode cX6_drawLikes 59 = .ok (.istore_n 2, 1) := by decide +kernel
theorem dX6_drawLikes_60 : decode cX6_drawLikes 60 = .ok (.aload_n 0, 1) := by decide +kernel
theorem dX6_drawLikes_61 : decode cX6_drawLikes 61 = .ok (.getfield 34, 3) := by decide +kernel
theorem dX6_drawLikes_64 : decode cX6_drawLikes 64 = .ok (.iload_n 3, 1) := by decide +kernel
theorem dX6_drawLikes_65 : decode cX6_drawLikes 65 = .ok (.aload_n 0, 1) := by decide +kernel
theorem dX6_drawLikes_66 : decode cX6_drawLikes 66 = .ok (.getfield 50, 3) := by decide +kernel
theorem dX6_drawLikes_69 : decode cX6_drawLikes 69 = .ok (.iload_n 3, 1) := by decide +kernel
theorem dX6_drawLikes_70 : decode cX6_drawLikes 70 = .ok (.iload_n 2, 1) := by decide +kernel
theorem dX6_drawLikes_71 : decode cX6_drawLikes 71 = .ok (.bipush 16, 2) := by decide +kernel
theorem dX6_drawLikes_73 : decode cX6_drawLikes 73 = .ok (.iushr, 1) := by decide +kernel
theorem dX6_drawLikes_74 : decode cX6_drawLikes 74 = .ok (.sipush 32767, 3) := by decide +kernel
theorem dX6_drawLikes_77 : decode cX6_drawLikes 77 = .ok (.iand, 1) := by decide +kernel
theorem dX6_drawLikes_78 : decode cX6_drawLikes 78 = .ok (.iload 4, 2) := by decide +kernel
theorem dX6_drawLikes_80 : decode cX6_drawLikes 80 = .ok (.irem, 1) := by decide +kernel
theorem dX6_drawLikes_81 : decode cX6_drawLikes 81 = .ok (.invokevirtual 297, 3) := by decide +kernel
theorem dX6_drawLikes_84 : decode cX6_drawLikes 84 = .ok (.iastore, 1) := by decide +kernel
theorem dX6_drawLikes_85 : decode cX6_drawLikes 85 = .ok (.iinc 3 1, 3) := by decide +kernel
theorem dX6_drawLikes_88 : decode cX6_drawLikes 88 = .ok (.goto (-84), 3) := by decide +kernel
theorem dX6_drawLikes_91 : decode cX6_drawLikes 91 = .ok (.iload_n 2, 1) := by decide +kernel
theorem dX6_drawLikes_92 : decode cX6_drawLikes 92 = .ok (.ireturn, 1) := by decide +kernel
theorem dX7_init_0 : decode cX7_init 0 = .ok (.aload_n 0, 1) := by decide +kernel
theorem dX7_init_1 : decode cX7_init 1 = .ok (.invokespecial 1, 3) := by decide +kernel
theorem dX7_init_4 : decode cX7_init 4 = .ok (.aload_n 0, 1) := by decide +kernel
theorem dX7_init_5 : decode cX7_init 5 = .ok (.iconst 5, 1) := by decide +kernel
theorem dX7_init_6 : decode cX7_init 6 = .ok (.anewarray 7, 3) := by decide +kernel
theorem dX7_init_9 : decode cX7_init 9 = .ok (.dup, 1) := by decide +kernel
theorem dX7_init_10 : decode cX7_init 10 = .ok (.iconst 0, 1) := by decide +kernel
theorem dX7_init_11 : decode cX7_init 11 = .ok (.ldc 9, 2) := by decide +kernel
theorem dX7_init_13 : decode cX7_init 13 = .ok (.aastore, 1) := by decide +kernel
theorem dX7_init_14 : decode cX7_init 14 = .ok (.dup, 1) := by decide +kernel
theorem dX7_init_15 : decode cX7_init 15 = .ok (.iconst 1, 1) := by decide +kernel
theorem dX7_init_16 : decode cX7_init 16 = .ok (.ldc 11, 2) := by decide +kernel
theorem dX7_init_18 : decode cX7_init 18 = .ok (.aastore, 1) := by decide +kernel
theorem dX7_init_19 : decode cX7_init 19 = .ok (.dup, 1) := by decide +kernel
theorem dX7_init_20 : decode cX7_init 20 = .ok (.iconst 2, 1) := by decide +kernel
theorem dX7_init_21 : decode cX7_init 21 = .ok (.ldc 13, 2) := by decide +kernel
theorem dX7_init_23 : decode cX7_init 23 = .ok (.aastore, 1) := by decide +kernel
theorem dX7_init_24 : decode cX7_init 24 = .ok (.dup, 1) := by decide +kernel
theorem dX7_init_25 : decode cX7_init 25 = .ok (.iconst 3, 1) := by decide +kernel
theorem dX7_init_26 : decode cX7_init 26 = .ok (.ldc 15, 2) := by decide +kernel
theorem dX7_init_28 : decode cX7_init 28 = .ok (.aastore, 1) := by decide +kernel
theorem dX7_init_29 : decode cX7_init 29 = .ok (.dup, 1) := by decide +kernel
theorem dX7_init_30 : decode cX7_init 30 = .ok (.iconst 4, 1) := by decide +kernel
theorem dX7_init_31 : decode cX7_init 31 = .ok (.ldc 17, 2) := by decide +kernel
theorem dX7_init_33 : decode cX7_init 33 = .ok (.aastore, 1) := by decide +kernel
theorem dX7_init_34 : decode cX7_init 34 = .ok (.putfield 19, 3) := by decide +kernel
theorem dX7_init_37 : decode cX7_init 37 = .ok (.aload_n 0, 1) := by decide +kernel
theorem dX7_init_38 : decode cX7_init 38 = .ok (.iconst 4, 1) := by decide +kernel
theorem dX7_init_39 : decode cX7_init 39 = .ok (.anewarray 7, 3) := by decide +kernel
theorem dX7_init_42 : decode cX7_init 42 = .ok (.dup, 1) := by decide +kernel
theorem dX7_init_43 : decode cX7_init 43 = .ok (.iconst 0, 1) := by decide +kernel
theorem dX7_init_44 : decode cX7_init 44 = .ok (.ldc 25, 2) := by decide +kernel
theorem dX7_init_46 : decode cX7_init 46 = .ok (.aastore, 1) := by decide +kernel
theorem dX7_init_47 : decode cX7_init 47 = .ok (.dup, 1) := by decide +kernel
theorem dX7_init_48 : decode cX7_init 48 = .ok (.iconst 1, 1) := by decide +kernel
theorem dX7_init_49 : decode cX7_init 49 = .ok (.ldc 27, 2) := by decide +kernel
theorem dX7_init_51 : decode cX7_init 51 = .ok (.aastore, 1) := by decide +kernel
theorem dX7_init_52 : decode cX7_init 52 = .ok (.dup, 1) := by decide +kernel
theorem dX7_init_53 : decode cX7_init 53 = .ok (.iconst 2, 1) := by decide +kernel
theorem dX7_init_54 : decode cX7_init 54 = .ok (.ldc 29, 2) := by decide +kernel
theorem dX7_init_56 : decode cX7_init 56 = .ok (.aastore, 1) := by decide +kernel
theorem dX7_init_57 : decode cX7_init 57 = .ok (.dup, 1) := by decide +kernel
theorem dX7_init_58 : decode cX7_init 58 = .ok (.iconst 3, 1) := by decide +kernel
theorem dX7_init_59 : decode cX7_init 59 = .ok (.ldc 31, 2) := by decide +kernel
theorem dX7_init_61 : decode cX7_init 61 = .ok (.aastore, 1) := by decide +kernel
theorem dX7_init_62 : decode cX7_init 62 = .ok (.putfield 33, 3) := by decide +kernel
theorem dX7_init_65 : decode cX7_init 65 = .ok (.aload_n 0, 1) := by decide +kernel
theorem dX7_init_66 : decode cX7_init 66 = .ok (.iconst 4, 1) := by decide +kernel
theorem dX7_init_67 : decode cX7_init 67 = .ok (.newarray .int, 2) := by decide +kernel
theorem dX7_init_69 : decode cX7_init 69 = .ok (.dup, 1) := by decide +kernel
theorem dX7_init_70 : decode cX7_init 70 = .ok (.iconst 0, 1) := by decide +kernel
theorem dX7_init_71 : decode cX7_init 71 = .ok (.iconst 1, 1) := by decide +kernel
theorem dX7_init_72 : decode cX7_init 72 = .ok (.iastore, 1) := by decide +kernel
theorem dX7_init_73 : decode cX7_init 73 = .ok (.dup, 1) := by decide +kernel
theorem dX7_init_74 : decode cX7_init 74 = .ok (.iconst 1, 1) := by decide +kernel
theorem dX7_init_75 : decode cX7_init 75 = .ok (.iconst 0, 1) := by decide +kernel
theorem dX7_init_76 : decode cX7_init 76 = .ok (.iastore, 1) := by decide +kernel
theorem dX7_init_77 : decode cX7_init 77 = .ok (.dup, 1) := by decide +kernel
theorem dX7_init_78 : decode cX7_init 78 = .ok (.iconst 2, 1) := by decide +kernel
theorem dX7_init_79 : decode cX7_init 79 = .ok (.iconst 0, 1) := by decide +kernel
theorem dX7_init_80 : decode cX7_init 80 = .ok (.iastore, 1) := by decide +kernel
theorem dX7_init_81 : decode cX7_init 81 = .ok (.dup, 1) := by decide +kernel
theorem dX7_init_82 : decode cX7_init 82 = .ok (.iconst 3, 1) := by decide +kernel
theorem dX7_init_83 : decode cX7_init 83 = .ok (.iconst 1, 1) := by decide +kernel
theorem dX7_init_84 : decode cX7_init 84 = .ok (.iastore, 1) := by decide +kernel
theorem dX7_init_85 : decode cX7_init 85 = .ok (.putfield 36, 3) := by decide +kernel
theorem dX7_init_88 : decode cX7_init 88 = .ok (.aload_n 0, 1) := by decide +kernel
theorem dX7_init_89 : decode cX7_init 89 = .ok (.iconst 4, 1) := by decide +kernel
theorem dX7_init_90 : decode cX7_init 90 = .ok (.newarray .int, 2) := by decide +kernel
theorem dX7_init_92 : decode cX7_init 92 = .ok (.dup, 1) := by decide +kernel
theorem dX7_init_93 : decode cX7_init 93 = .ok (.iconst 0, 1) := by decide +kernel
theorem dX7_init_94 : decode cX7_init 94 = .ok (.bipush 9, 2) := by decide +kernel
theorem dX7_init_96 : decode cX7_init 96 = .ok (.iastore, 1) := by decide +kernel
theorem dX7_init_97 : decode cX7_init 97 = .ok (.dup, 1) := by decide +kernel
theorem dX7_init_98 : decode cX7_init 98 = .ok (.iconst 1, 1) := by decide +kernel
theorem dX7_init_99 : decode cX7_init 99 = .ok (.bipush 9, 2) := by decide +kernel
theorem dX7_init_101 : decode cX7_init 101 = .ok (.iastore, 1) := by decide +kernel
theorem dX7_init_102 : decode cX7_init 102 = .ok (.dup, 1) := by decide +kernel
theorem dX7_init_103 : decode cX7_init 103 = .ok (.iconst 2, 1) := by decide +kernel
theorem dX7_init_104 : decode cX7_init 104 = .ok (.bipush 9, 2) := by decide +kernel
theorem dX7_init_106 : decode cX7_init 106 = .ok (.iastore, 1) := by decide +kernel
theorem dX7_init_107 : decode cX7_init 107 = .ok (.dup, 1) := by decide +kernel
theorem dX7_init_108 : decode cX7_init 108 = .ok (.iconst 3, 1) := by decide +kernel
theorem dX7_init_109 : decode cX7_init 109 = .ok (.bipush 99, 2) := by decide +kernel
theorem dX7_init_111 : decode cX7_init 111 = .ok (.iastore, 1) := by decide +kernel
theorem dX7_init_112 : decode cX7_init 112 = .ok (.putfield 40, 3) := by decide +kernel
theorem dX7_init_115 : decode cX7_init 115 = .ok (.aload_n 0, 1) := by decide +kernel
theorem dX7_init_116 : decode cX7_init 116 = .ok (.bipush 14, 2) := by decide +kernel
theorem dX7_init_118 : decode cX7_init 118 = .ok (.newarray .int, 2) := by decide +kernel
theorem dX7_init_120 : decode cX7_init 120 = .ok (.dup, 1) := by decide +kernel
theorem dX7_init_121 : decode cX7_init 121 = .ok (.iconst 0, 1) := by decide +kernel
theorem dX7_init_122 : decode cX7_init 122 = .ok (.bipush 12, 2) := by decide +kernel
theorem dX7_init_124 : decode cX7_init 124 = .ok (.iastore, 1) := by decide +kernel
theorem dX7_init_125 : decode cX7_init 125 = .ok (.dup, 1) := by decide +kernel
theorem dX7_init_126 : decode cX7_init 126 = .ok (.iconst 1, 1) := by decide +kernel
theorem dX7_init_127 : decode cX7_init 127 = .ok (.iconst 0, 1) := by decide +kernel
theorem dX7_init_128 : decode cX7_init 128 = .ok (.iastore, 1) := by decide +kernel
theorem dX7_init_129 : decode cX7_init 129 = .ok (.dup, 1) := by decide +kernel
theorem dX7_init_130 : decode cX7_init 130 = .ok (.iconst 2, 1) := by decide +kernel
theorem dX7_init_131 : decode cX7_init 131 = .ok (.iconst 1, 1) := by decide +kernel
theorem dX7_init_132 : decode cX7_init 132 = .ok (.iastore, 1) := by decide +kernel
theorem dX7_init_133 : decode cX7_init 133 = .ok (.dup, 1) := by decide +kernel
theorem dX7_init_134 : decode cX7_init 134 = .ok (.iconst 3, 1) := by decide +kernel
theorem dX7_init_135 : decode cX7_init 135 = .ok (.iconst 0, 1) := by decide +kernel
theorem dX7_init_136 : decode cX7_init 136 = .ok (.iastore, 1) := by decide +kernel
theorem dX7_init_137 : decode cX7_init 137 = .ok (.dup, 1) := by decide +kernel
theorem dX7_init_138 : decode cX7_init 138 = .ok (.iconst 4, 1) := by decide +kernel
theorem dX7_init_139 : decode cX7_init 139 = .ok (.iconst 0, 1) := by decide +kernel
theorem dX7_init_140 : decode cX7_init 140 = .ok (.iastore, 1) := by decide +kernel
theorem dX7_init_141 : decode cX7_init 141 = .ok (.dup, 1) := by decide +kernel
theorem dX7_init_142 : decode cX7_init 142 = .ok (.iconst 5, 1) := by decide +kernel
theorem dX7_init_143 : decode cX7_init 143 = .ok (.bipush 40, 2) := by decide +kernel
theorem dX7_init_145 : decode cX7_init 145 = .ok (.iastore, 1) := by decide +kernel
theorem dX7_init_146 : decode cX7_init 146 = .ok (.dup, 1) := by decide +kernel
theorem dX7_init_147 : decode cX7_init 147 = .ok (.bipush 6, 2) := by decide +kernel
theorem dX7_init_149 : decode cX7_init 149 = .ok (.iconst 0, 1) := by decide +kernel
theorem dX7_init_150 : decode cX7_init 150 = .ok (.iastore, 1) := by decide +kernel
theorem dX7_init_151 : decode cX7_init 151 = .ok (.dup, 1) := by decide +kernel
theorem dX7_init_152 : decode cX7_init 152 = .ok (.bipush 7, 2) := by decide +kernel
theorem dX7_init_154 : decode cX7_init 154 = .ok (.bipush 12, 2) := by decide +kernel
theorem dX7_init_156 : decode cX7_init 156 = .ok (.iastore, 1) := by decide +kernel
theorem dX7_init_157 : decode cX7_init 157 = .ok (.dup, 1) := by decide +kernel
theorem dX7_init_158 : decode cX7_init 158 = .ok (.bipush 8, 2) := by decide +kernel
theorem dX7_init_160 : decode cX7_init 160 = .ok (.iconst 0, 1) := by decide +kernel
theorem dX7_init_161 : decode cX7_init 161 = .ok (.iastore, 1) := by decide +kernel
theorem dX7_init_162 : decode cX7_init 162 = .ok (.dup, 1) := by decide +kernel
theorem dX7_init_163 : decode cX7_init 163 = .ok (.bipush 9, 2) := by decide +kernel
theorem dX7_init_165 : decode cX7_init 165 = .ok (.iconst 1, 1) := by decide +kernel
theorem dX7_init_166 : decode cX7_init 166 = .ok (.iastore, 1) := by decide +kernel
theorem dX7_init_167 : decode cX7_init 167 = .ok (.dup, 1) := by decide +kernel
theorem dX7_init_168 : decode cX7_init 168 = .ok (.bipush 10, 2) := by decide +kernel
theorem dX7_init_170 : decode cX7_init 170 = .ok (.iconst 0, 1) := by decide +kernel
theorem dX7_init_171 : decode cX7_init 171 = .ok (.iastore, 1) := by decide +kernel
theorem dX7_init_172 : decode cX7_init 172 = .ok (.dup, 1) := by decide +kernel
theorem dX7_init_173 : decode cX7_init 173 = .ok (.bipush 11, 2) := by decide +kernel
theorem dX7_init_175 : decode cX7_init 175 = .ok (.iconst 0, 1) := by decide +kernel
theorem dX7_init_176 : decode cX7_init 176 = .ok (.iastore, 1) := by decide +kernel
theorem dX7_init_177 : decode cX7_init 177 = .ok (.dup, 1) := by decide +kernel
theorem dX7_init_178 : decode cX7_init 178 = .ok (.bipush 12, 2) := by decide +kernel
theorem dX7_init_180 : decode cX7_init 180 = .ok (.bipush 40, 2) := by decide +kernel
theorem dX7_init_182 : decode cX7_init 182 = .ok (.iastore, 1) := by decide +kernel
theorem dX7_init_183 : decode cX7_init 183 = .ok (.dup, 1) := by decide +kernel
theorem dX7_init_184 : decode cX7_init 184 = .ok (.bipush 13, 2) := by decide +kernel
theorem dX7_init_186 : decode cX7_init 186 = .ok (.iconst 0, 1) := by decide +kernel
theorem dX7_init_187 : decode cX7_init 187 = .ok (.iastore, 1) := by decide +kernel
theorem dX7_init_188 : decode cX7_init 188 = .ok (.putfield 43, 3) := by decide +kernel
theorem dX7_init_191 : decode cX7_init 191 = .ok (.aload_n 0, 1) := by decide +kernel
theorem dX7_init_192 : decode cX7_init 192 = .ok (.bipush 12, 2) := by decide +kernel
theorem dX7_init_194 : decode cX7_init 194 = .ok (.newarray .int, 2) := by decide +kernel
theorem dX7_init_196 : decode cX7_init 196 = .ok (.putfield 46, 3) := by decide +kernel
theorem dX7_init_199 : decode cX7_init 199 = .ok (.aload_n 0, 1) := by decide +kernel
theorem dX7_init_200 : decode cX7_init 200 = .ok (.bipush 12, 2) := by decide +kernel
theorem dX7_init_202 : decode cX7_init 202 = .ok (.newarray .int, 2) := by decide +kernel
theorem dX7_init_204 : decode cX7_init 204 = .ok (.putfield 49, 3) := by decide +kernel
theorem dX7_init_207 : decode cX7_init 207 = .ok (.aload_n 0, 1) := by decide +kernel
theorem dX7_init_208 : decode cX7_init 208 = .ok (.bipush 36, 2) := by decide +kernel
theorem dX7_init_210 : decode cX7_init 210 = .ok (.newarray .int, 2) := by decide +kernel
theorem dX7_init_212 : decode cX7_init 212 = .ok (.putfield 52, 3) := by decide +kernel
theorem dX7_init_215 : decode cX7_init 215 = .ok (.aload_n 0, 1) := by decide +kernel
theorem dX7_init_216 : decode cX7_init 216 = .ok (.bipush 12, 2) := by decide +kernel
theorem dX7_init_218 : decode cX7_init 218 = .ok (.newarray .int, 2) := by decide +kernel
theorem dX7_init_220 : decode cX7_init 220 = .ok (.putfield 55, 3) := by decide +kernel
theorem dX7_init_223 : decode cX7_init 223 = .ok (.aload_n 0, 1) := by decide +kernel
theorem dX7_init_224 : decode cX7_init 224 = .ok (.bipush 20, 2) := by decide +kernel
theorem dX7_init_226 : decode cX7_init 226 = .ok (.newarray .int, 2) := by decide +kernel
theorem dX7_init_228 : decode cX7_init 228 = .ok (.putfield 58, 3) := by decide +kernel
theorem dX7_init_231 : decode cX7_init 231 = .ok (.aload_n 0, 1) := by decide +kernel
theorem dX7_init_232 : decode cX7_init 232 = .ok (.bipush 20, 2) := by decide +kernel
theorem dX7_init_234 : decode cX7_init 234 = .ok (.newarray .int, 2) := by decide +kernel
theorem dX7_init_236 : decode cX7_init 236 = .ok (.putfield 61, 3) := by decide +kernel
theorem dX7_init_239 : decode cX7_init 239 = .ok (.aload_n 0, 1) := by decide +kernel
theorem dX7_init_240 : decode cX7_init 240 = .ok (.bipush 20, 2) := by decide +kernel
theorem dX7_init_242 : decode cX7_init 242 = .ok (.newarray .int, 2) := by decide +kernel
theorem dX7_init_244 : decode cX7_init 244 = .ok (.putfield 64, 3) := by decide +kernel
theorem dX7_init_247 : decode cX7_init 247 = .ok (.aload_n 0, 1) := by decide +kernel
theorem dX7_init_248 : decode cX7_init 248 = .ok (.iconst 3, 1) := by decide +kernel
theorem dX7_init_249 : decode cX7_init 249 = .ok (.newarray .int, 2) := by decide +kernel
theorem dX7_init_251 : decode cX7_init 251 = .ok (.putfield 67, 3) := by decide +kernel
theorem dX7_init_254 : decode cX7_init 254 = .ok (.aload_n 0, 1) := by decide +kernel
theorem dX7_init_255 : decode cX7_init 255 = .ok (.sipush 500, 3) := by decide +kernel
theorem dX7_init_258 : decode cX7_init 258 = .ok (.newarray .int, 2) := by decide +kernel
theorem dX7_init_260 : decode cX7_init 260 = .ok (.putfield 70, 3) := by decide +kernel
theorem dX7_init_263 : decode cX7_init 263 = .ok (.aload_n 0, 1) := by decide +kernel
theorem dX7_init_264 : decode cX7_init 264 = .ok (.iconst (-1), 1) := by decide +kernel
theorem dX7_init_265 : decode cX7_init 265 = .ok (.putfield 73, 3) := by decide +kernel
theorem dX7_init_268 : decode cX7_init 268 = .ok (.aload_n 0, 1) := by decide +kernel
theorem dX7_init_269 : decode cX7_init 269 = .ok (.bipush 30, 2) := by decide +kernel
theorem dX7_init_271 : decode cX7_init 271 = .ok (.newarray .int, 2) := by decide +kernel
theorem dX7_init_273 : decode cX7_init 273 = .ok (.putfield 77, 3) := by decide +kernel
theorem dX7_init_276 : decode cX7_init 276 = .ok (.aload_n 0, 1) := by decide +kernel
theorem dX7_init_277 : decode cX7_init 277 = .ok (.bipush 30, 2) := by decide +kernel
theorem dX7_init_279 : decode cX7_init 279 = .ok (.newarray .int, 2) := by decide +kernel
theorem dX7_init_281 : decode cX7_init 281 = .ok (.putfield 80, 3) := by decide +kernel
theorem dX7_init_284 : decode cX7_init 284 = .ok (.aload_n 0, 1) := by decide +kernel
theorem dX7_init_285 : decode cX7_init 285 = .ok (.bipush 30, 2) := by decide +kernel
theorem dX7_init_287 : decode cX7_init 287 = .ok (.newarray .int, 2) := by decide +kernel
theorem dX7_init_289 : decode cX7_init 289 = .ok (.putfield 83, 3) := by decide +kernel
theorem dX7_init_292 : decode cX7_init 292 = .ok (.aload_n 0, 1) := by decide +kernel
theorem dX7_init_293 : decode cX7_init 293 = .ok (.bipush 6, 2) := by decide +kernel
theorem dX7_init_295 : decode cX7_init 295 = .ok (.newarray .int, 2) := by decide +kernel
theorem dX7_init_297 : decode cX7_init 297 = .ok (.putfield 86, 3) := by decide +kernel
theorem dX7_init_300 : decode cX7_init 300 = .ok (.aload_n 0, 1) := by decide +kernel
theorem dX7_init_301 : decode cX7_init 301 = .ok (.iconst 3, 1) := by decide +kernel
theorem dX7_init_302 : decode cX7_init 302 = .ok (.newarray .int, 2) := by decide +kernel
theorem dX7_init_304 : decode cX7_init 304 = .ok (.putfield 89, 3) := by decide +kernel
theorem dX7_init_307 : decode cX7_init 307 = .ok (.aload_n 0, 1) := by decide +kernel
theorem dX7_init_308 : decode cX7_init 308 = .ok (.sipush 1800, 3) := by decide +kernel
theorem dX7_init_311 : decode cX7_init 311 = .ok (.newarray .int, 2) := by decide +kernel
theorem dX7_init_313 : decode cX7_init 313 = .ok (.putfield 92, 3) := by decide +kernel
theorem dX7_init_316 : decode cX7_init 316 = .ok (.aload_n 0, 1) := by decide +kernel
theorem dX7_init_317 : decode cX7_init 317 = .ok (.sipush 1800, 3) := by decide +kernel
theorem dX7_init_320 : decode cX7_init 320 = .ok (.newarray .int, 2) := by decide +kernel
theorem dX7_init_322 : decode cX7_init 322 = .ok (.putfield 95, 3) := by decide +kernel
theorem dX7_init_325 : decode cX7_init 325 = .ok (.aload_n 0, 1) := by decide +kernel
theorem dX7_init_326 : decode cX7_init 326 = .ok (.bipush 100, 2) := by decide +kernel
theorem dX7_init_328 : decode cX7_init 328 = .ok (.newarray .int, 2) := by decide +kernel
theorem dX7_init_330 : decode cX7_init 330 = .ok (.putfield 98, 3) := by decide +kernel
theorem dX7_init_333 : decode cX7_init 333 = .ok (.aload_n 0, 1) := by decide +kernel
theorem dX7_init_334 : decode cX7_init 334 = .ok (.sipush 18018, 3) := by decide +kernel
theorem dX7_init_337 : decode cX7_init 337 = .ok (.newarray .int, 2) := by decide +kernel
theorem dX7_init_339 : decode cX7_init 339 = .ok (.putfield 101, 3) := by decide +kernel
theorem dX7_init_342 : decode cX7_init 342 = .ok (.aload_n 0, 1) := by decide +kernel
theorem dX7_init_343 : decode cX7_init 343 = .ok (.sipush 1001, 3) := by decide +kernel
theorem dX7_init_346 : decode cX7_init 346 = .ok (.newarray .int, 2) := by decide +kernel
theorem dX7_init_348 : decode cX7_init 348 = .ok (.putfield 104, 3) := by decide +kernel
theorem dX7_init_351 : decode cX7_init 351 = .ok (.aload_n 0, 1) := by decide +kernel
theorem dX7_init_352 : decode cX7_init 352 = .ok (.iconst 3, 1) := by decide +kernel
theorem dX7_init_353 : decode cX7_init 353 = .ok (.newarray .int, 2) := by decide +kernel
theorem dX7_init_355 : decode cX7_init 355 = .ok (.putfield 107, 3) := by decide +kernel
theorem dX7_init_358 : decode cX7_init 358 = .ok (.aload_n 0, 1) := by decide +kernel
theorem dX7_init_359 : decode cX7_init 359 = .ok (.sipush 2187, 3) := by decide +kernel
theorem dX7_init_362 : decode cX7_init 362 = .ok (.newarray .int, 2) := by decide +kernel
theorem dX7_init_364 : decode cX7_init 364 = .ok (.putfield 110, 3) := by decide +kernel
theorem dX7_init_367 : decode cX7_init 367 = .ok (.aload_n 0, 1) := by decide +kernel
theorem dX7_init_368 : decode cX7_init 368 = .ok (.bipush 30, 2) := by decide +kernel
theorem dX7_init_370 : decode cX7_init 370 = .ok (.newarray .int, 2) := by decide +kernel
theorem dX7_init_372 : decode cX7_init 372 = .ok (.putfield 113, 3) := by decide +kernel
theorem dX7_init_375 : decode cX7_init 375 = .ok (.aload_n 0, 1) := by decide +kernel
theorem dX7_init_376 : decode cX7_init 376 = .ok (.bipush 30, 2) := by decide +kernel
theorem dX7_init_378 : decode cX7_init 378 = .ok (.newarray .int, 2) := by decide +kernel
theorem dX7_init_380 : decode cX7_init 380 = .ok (.putfield 116, 3) := by decide +kernel
theorem dX7_init_383 : decode cX7_init 383 = .ok (.aload_n 0, 1) := by decide +kernel
theorem dX7_init_384 : decode cX7_init 384 = .ok (.sipush 1800, 3) := by decide +kernel
theorem dX7_init_387 : decode cX7_init 387 = .ok (.newarray .int, 2) := by decide +kernel
theorem dX7_init_389 : decode cX7_init 389 = .ok (.putfield 119, 3) := by decide +kernel
theorem dX7_init_392 : decode cX7_init 392 = .ok (.aload_n 0, 1) := by decide +kernel
theorem dX7_init_393 : decode cX7_init 393 = .ok (.sipush 1800, 3) := by decide +kernel
theorem dX7_init_396 : decode cX7_init 396 = .ok (.newarray .int, 2) := by decide +kernel
theorem dX7_init_398 : decode cX7_init 398 = .ok (.putfield 122, 3) := by decide +kernel
theorem dX7_init_401 : decode cX7_init 401 = .ok (.aload_n 0, 1) := by decide +kernel
theorem dX7_init_402 : decode cX7_init 402 = .ok (.bipush 100, 2) := by decide +kernel
theorem dX7_init_404 : decode cX7_init 404 = .ok (.newarray .int, 2) := by decide +kernel
theorem dX7_init_406 : decode cX7_init 406 = .ok (.putfield 125, 3) := by decide +kernel
theorem dX7_init_409 : decode cX7_init 409 = .ok (.aload_n 0, 1) := by decide +kernel
theorem dX7_init_410 : decode cX7_init 410 = .ok (.iconst 3, 1) := by decide +kernel
theorem dX7_init_411 : decode cX7_init 411 = .ok (.newarray .int, 2) := by decide +kernel
theorem dX7_init_413 : decode cX7_init 413 = .ok (.putfield 128, 3) := by decide +kernel
theorem dX7_init_416 : decode cX7_init 416 = .ok (.return_, 1) := by decide +kernel
theorem dX7_thrown_0 : decode cX7_thrown 0 = .ok (.aload_n 0, 1) := by decide +kernel
theorem dX7_thrown_1 : decode cX7_thrown 1 = .ok (.getfield 131, 3) := by decide +kernel
theorem dX7_thrown_4 : decode cX7_thrown 4 = .ok (.ireturn, 1) := by decide +kernel
theorem dX7_fail_0 : decode cX7_fail 0 = .ok (.aload_n 0, 1) := by decide +kernel
theorem dX7_fail_1 : decode cX7_fail 1 = .ok (.iload_n 1, 1) := by decide +kernel
theorem dX7_fail_2 : decode cX7_fail 2 = .ok (.putfield 131, 3) := by decide +kernel
theorem dX7_fail_5 : decode cX7_fail 5 = .ok (.iconst 0, 1) := by decide +kernel
theorem dX7_fail_6 : decode cX7_fail 6 = .ok (.ireturn, 1) := by decide +kernel
theorem dX7_isIn_0 : decode cX7_isIn 0 = .ok (.iload_n 0, 1) := by decide +kernel
theorem dX7_isIn_1 : decode cX7_isIn 1 = .ok (.iload_n 1, 1) := by decide +kernel
theorem dX7_isIn_2 : decode cX7_isIn 2 = .ok (.if_icmp .lt 12, 3) := by decide +kernel
theorem dX7_isIn_5 : decode cX7_isIn 5 = .ok (.iload_n 0, 1) := by decide +kernel
theorem dX7_isIn_6 : decode cX7_isIn 6 = .ok (.iload_n 2, 1) := by decide +kernel
theorem dX7_isIn_7 : decode cX7_isIn 7 = .ok (.if_icmp .gt 7, 3) := by decide +kernel
theorem dX7_isIn_10 : decode cX7_isIn 10 = .ok (.iconst 1, 1) := by decide +kernel
theorem dX7_isIn_11 : decode cX7_isIn 11 = .ok (.goto 4, 3) := by decide +kernel
theorem dX7_isIn_14 : decode cX7_isIn 14 = .ok (.iconst 0, 1) := by decide +kernel
theorem dX7_isIn_15 : decode cX7_isIn 15 = .ok (.ireturn, 1) := by decide +kernel
theorem dX7_isLamp_0 : decode cX7_isLamp 0 = .ok (.iload_n 1, 1) := by decide +kernel
theorem dX7_isLamp_1 : decode cX7_isLamp 1 = .ok (.iconst 0, 1) := by decide +kernel
theorem dX7_isLamp_2 : decode cX7_isLamp 2 = .ok (.aload_n 0, 1) := by decide +kernel
theorem dX7_isLamp_3 : decode cX7_isLamp 3 = .ok (.getfield 43, 3) := by decide +kernel
theorem dX7_isLamp_6 : decode cX7_isLamp 6 = .ok (.iconst 1, 1) := by decide +kernel
theorem dX7_isLamp_7 : decode cX7_isLamp 7 = .ok (.iaload, 1) := by decide +kernel
theorem dX7_isLamp_8 : decode cX7_isLamp 8 = .ok (.iconst 1, 1) := by decide +kernel
theorem dX7_isLamp_9 : decode cX7_isLamp 9 = .ok (.isub, 1) := by decide +kernel
theorem dX7_isLamp_10 : decode cX7_isLamp 10 = .ok (.invokestatic 134, 3) := by decide +kernel
theorem dX7_isLamp_13 : decode cX7_isLamp 13 = .ok (.ireturn, 1) := by decide +kernel
theorem dX7_feed_0 : decode cX7_feed 0 = .ok (.aload_n 0, 1) := by decide +kernel
theorem dX7_feed_1 : decode cX7_feed 1 = .ok (.iconst 0, 1) := by decide +kernel
theorem dX7_feed_2 : decode cX7_feed 2 = .ok (.putfield 131, 3) := by decide +kernel
theorem dX7_feed_5 : decode cX7_feed 5 = .ok (.aload_n 0, 1) := by decide +kernel
theorem dX7_feed_6 : decode cX7_feed 6 = .ok (.getfield 138, 3) := by decide +kernel
theorem dX7_feed_9 : decode cX7_feed 9 = .ok (.bipush 20, 2) := by decide +kernel
theorem dX7_feed_11 : decode cX7_feed 11 = .ok (.iadd, 1) := by decide +kernel
theorem dX7_feed_12 : decode cX7_feed 12 = .ok (.sipush 500, 3) := by decide +kernel
theorem dX7_feed_15 : decode cX7_feed 15 = .ok (.if_icmp .le 5, 3) := by decide +kernel
theorem dX7_feed_18 : decode cX7_feed 18 = .ok (.iconst (-1), 1) := by decide +kernel
theorem dX7_feed_19 : decode cX7_feed 19 = .ok (.ireturn, 1) := by decide +kernel
theorem dX7_feed_20 : decode cX7_feed 20 = .ok (.iconst 0, 1) := by decide +kernel
theorem dX7_feed_21 : decode cX7_feed 21 = .ok (.istore 6, 2) := by decide +kernel
theorem dX7_feed_23 : decode cX7_feed 23 = .ok (.iload 6, 2) := by decide +kernel
theorem dX7_feed_25 : decode cX7_feed 25 = .ok (.bipush 20, 2) := by decide +kernel
theorem dX7_feed_27 : decode cX7_feed 27 = .ok (.if_icmp .ge 93, 3) := by decide +kernel
theorem dX7_feed_30 : decode cX7_feed 30 = .ok (.iload 6, 2) := by decide +kernel
theorem dX7_feed_32 : decode cX7_feed 32 = .ok (.iconst 4, 1) := by decide +kernel
theorem dX7_feed_33 : decode cX7_feed 33 = .ok (.if_icmp .ge 7, 3) := by decide +kernel
theorem dX7_feed_36 : decode cX7_feed 36 = .ok (.iload_n 1, 1) := by decide +kernel
theorem dX7_feed_37 : decode cX7_feed 37 = .ok (.goto 39, 3) := by decide +kernel
theorem dX7_feed_40 : decode cX7_feed 40 = .ok (.iload 6, 2) := by decide +kernel
theorem dX7_feed_42 : decode cX7_feed 42 = .ok (.bipush 8, 2) := by decide +kernel
theorem dX7_feed_44 : decode cX7_feed 44 = .ok (.if_icmp .ge 7, 3) := by decide +kernel
theorem dX7_feed_47 : decode cX7_feed 47 = .ok (.iload_n 2, 1) := by decide +kernel
theorem dX7_feed_48 : decode cX7_feed 48 = .ok (.goto 28, 3) := by decide +kernel
theorem dX7_feed_51 : decode cX7_feed 51 = .ok (.iload 6, 2) := by decide +kernel
theorem dX7_feed_53 : decode cX7_feed 53 = .ok (.bipush 12, 2) := by decide +kernel
theorem dX7_feed_55 : decode cX7_feed 55 = .ok (.if_icmp .ge 7, 3) := by decide +kernel
theorem dX7_feed_58 : decode cX7_feed 58 = .ok (.iload_n 3, 1) := by decide +kernel
theorem dX7_feed_59 : decode cX7_feed 59 = .ok (.goto 17, 3) := by decide +kernel
theorem dX7_feed_62 : decode cX7_feed 62 = .ok (.iload 6, 2) := by decide +kernel
theorem dX7_feed_64 : decode cX7_feed 64 = .ok (.bipush 16, 2) := by decide +kernel
theorem dX7_feed_66 : decode cX7_feed 66 = .ok (.if_icmp .ge 8, 3) := by decide +kernel
theorem dX7_feed_69 : decode cX7_feed 69 = .ok (.iload 4, 2) := by decide +kernel
theorem dX7_feed_71 : decode cX7_feed 71 = .ok (.goto 5, 3) := by decide +kernel
theorem dX7_feed_74 : decode cX7_feed 74 = .ok (.iload 5, 2) := by decide +kernel
theorem dX7_feed_76 : decode cX7_feed 76 = .ok (.istore 7, 2) := by decide +kernel
theorem dX7_feed_78 : decode cX7_feed 78 = .ok (.aload_n 0, 1) := by decide +kernel
theorem dX7_feed_79 : decode cX7_feed 79 = .ok (.getfield 70, 3) := by decide +kernel
theorem dX7_feed_82 : decode cX7_feed 82 = .ok (.aload_n 0, 1) := by decide +kernel
theorem dX7_feed_83 : decode cX7_feed 83 = .ok (.getfield 138, 3) := by decide +kernel
theorem dX7_feed_86 : decode cX7_feed 86 = .ok (.iload 7, 2) := by decide +kernel
theorem dX7_feed_88 : decode cX7_feed 88 = .ok (.bipush 24, 2) := by decide +kernel
theorem dX7_feed_90 : decode cX7_feed 90 = .ok (.bipush 8, 2) := by decide +kernel
theorem dX7_feed_92 : decode cX7_feed 92 = .ok (.iload 6, 2) := by decide +kernel
theorem dX7_feed_94 : decode cX7_feed 94 = .ok (.iconst 4, 1) := by decide +kernel
theorem dX7_feed_95 : decode cX7_feed 95 = .ok (.irem, 1) := by decide +kernel
theorem dX7_feed_96 : decode cX7_feed 96 = .ok (.imul, 1) := by decide +kernel
theorem dX7_feed_97 : decode cX7_feed 97 = .ok (.isub, 1) := by decide +kernel
theorem dX7_feed_98 : decode cX7_feed 98 = .ok (.ishr, 1) := by decide +kernel
theorem dX7_feed_99 : decode cX7_feed 99 = .ok (.sipush 255, 3) := by decide +kernel
theorem dX7_feed_102 : decode cX7_feed 102 = .ok (.iand, 1) := by decide +kernel
theorem dX7_feed_103 : decode cX7_feed 103 = .ok (.iastore, 1) := by decide +kernel
theorem dX7_feed_104 : decode cX7_feed 104 = .ok (.aload_n 0, 1) := by decide +kernel
theorem dX7_feed_105 : decode cX7_feed 105 = .ok (.dup, 1) := by decide +kernel
theorem dX7_feed_106 : decode cX7_feed 106 = .ok (.getfield 138, 3) := by decide +kernel
theorem dX7_feed_109 : decode cX7_feed 109 = .ok (.iconst 1, 1) := by decide +kernel
theorem dX7_feed_110 : decode cX7_feed 110 = .ok (.iadd, 1) := by decide +kernel
theorem dX7_feed_111 : decode cX7_feed 111 = .ok (.putfield 138, 3) := by decide +kernel
theorem dX7_feed_114 : decode cX7_feed 114 = .ok (.iinc 6 1, 3) := by decide +kernel
theorem dX7_feed_117 : decode cX7_feed 117 = .ok (.goto (-94), 3) := by decide +kernel
theorem dX7_feed_120 : decode cX7_feed 120 = .ok (.aload_n 0, 1) := by decide +kernel
theorem dX7_feed_121 : decode cX7_feed 121 = .ok (.getfield 138, 3) := by decide +kernel
theorem dX7_feed_124 : decode cX7_feed 124 = .ok (.ireturn, 1) := by decide +kernel
theorem dX7_byteAt_0 : decode cX7_byteAt 0 = .ok (.iload_n 1, 1) := by decide +kernel
theorem dX7_byteAt_1 : decode cX7_byteAt 1 = .ok (.aload_n 0, 1) := by decide +kernel
theorem dX7_byteAt_2 : decode cX7_byteAt 2 = .ok (.getfield 141, 3) := by decide +kernel
theorem dX7_byteAt_5 : decode cX7_byteAt 5 = .ok (.if_icmp .ge 12, 3) := by decide +kernel
theorem dX7_byteAt_8 : decode cX7_byteAt 8 = .ok (.aload_n 0, 1) := by decide +kernel
theorem dX7_byteAt_9 : decode cX7_byteAt 9 = .ok (.getfield 70, 3) := by decide +kernel
theorem dX7_byteAt_12 : decode cX7_byteAt 12 = .ok (.iload_n 1, 1) := by decide +kernel
theorem dX7_byteAt_13 : decode cX7_byteAt 13 = .ok (.iaload, 1) := by decide +kernel
theorem dX7_byteAt_14 : decode cX7_byteAt 14 = .ok (.goto 4, 3) := by decide +kernel
theorem dX7_byteAt_17 : decode cX7_byteAt 17 = .ok (.iconst (-1), 1) := by decide +kernel
theorem dX7_byteAt_18 : decode cX7_byteAt 18 = .ok (.ireturn, 1) := by decide +kernel
theorem dX7_isLetter_0 : decode cX7_isLetter 0 = .ok (.iload_n 0, 1) := by decide +kernel
theorem dX7_isLetter_1 : decode cX7_isLetter 1 = .ok (.bipush 97, 2) := by decide +kernel
theorem dX7_isLetter_3 : decode cX7_isLetter 3 = .ok (.if_icmp .lt 13, 3) := by decide +kernel
theorem dX7_isLetter_6 : decode cX7_isLetter 6 = .ok (.iload_n 0, 1) := by decide +kernel
theorem dX7_isLetter_7 : decode cX7_isLetter 7 = .ok (.bipush 122, 2) := by decide +kernel
theorem dX7_isLetter_9 : decode cX7_isLetter 9 = .ok (.if_icmp .gt 7, 3) := by decide +kernel
theorem dX7_isLetter_12 : decode cX7_isLetter 12 = .ok (.iconst 1, 1) := by decide +kernel
theorem dX7_isLetter_13 : decode cX7_isLetter 13 = .ok (.goto 4, 3) := by decide +kernel
theorem dX7_isLetter_16 : decode cX7_isLetter 16 = .ok (.iconst 0, 1) := by decide +kernel
theorem dX7_isLetter_17 : decode cX7_isLetter 17 = .ok (.ireturn, 1) := by decide +kernel
theorem dX7_isDigit_0 : decode cX7_isDigit 0 = .ok (.iload_n 0, 1) := by decide +kernel
theorem dX7_isDigit_1 : decode cX7_isDigit 1 = .ok (.bipush 48, 2) := by decide +kernel
theorem dX7_isDigit_3 : decode cX7_isDigit 3 = .ok (.if_icmp .lt 13, 3) := by decide +kernel
theorem dX7_isDigit_6 : decode cX7_isDigit 6 = .ok (.iload_n 0, 1) := by decide +kernel
theorem dX7_isDigit_7 : decode cX7_isDigit 7 = .ok (.bipush 57, 2) := by decide +kernel
theorem dX7_isDigit_9 : decode cX7_isDigit 9 = .ok (.if_icmp .gt 7, 3) := by decide +kernel
theorem dX7_isDigit_12 : decode cX7_isDigit 12 = .ok (.iconst 1, 1) := by decide +kernel
theorem dX7_isDigit_13 : decode cX7_isDigit 13 = .ok (.goto 4, 3) := by decide +kernel
theorem dX7_isDigit_16 : decode cX7_isDigit 16 = .ok (.iconst 0, 1) := by decide +kernel
theorem dX7_isDigit_17 : decode cX7_isDigit 17 = .ok (.ireturn, 1) := by decide +kernel
theorem dX7_stepOn_0 : decode cX7_stepOn 0 = .ok (.aload_n 0, 1) := by decide +kernel
theorem dX7_stepOn_1 : decode cX7_stepOn 1 = .ok (.aload_n 0, 1) := by decide +kernel
theorem dX7_stepOn_2 : decode cX7_stepOn 2 = .ok (.getfield 144, 3) := by decide +kernel
theorem dX7_stepOn_5 : decode cX7_stepOn 5 = .ok (.invokevirtual 147, 3) := by decide +kernel
theorem dX7_stepOn_8 : decode cX7_stepOn 8 = .ok (.bipush 32, 2) := by decide +kernel
theorem dX7_stepOn_10 : decode cX7_stepOn 10 = .ok (.if_icmp .eq 16, 3) := by decide +kernel
theorem dX7_stepOn_13 : decode cX7_stepOn 13 = .ok (.aload_n 0, 1) := by decide +kernel
theorem dX7_stepOn_14 : decode cX7_stepOn 14 = .ok (.aload_n 0, 1) := by decide +kernel
theorem dX7_stepOn_15 : decode cX7_stepOn 15 = .ok (.getfield 144, 3) := by decide +kernel
theorem dX7_stepOn_18 : decode cX7_stepOn 18 = .ok (.invokevirtual 147, 3) := by decide +kernel
theorem dX7_stepOn_21 : decode cX7_stepOn 21 = .ok (.bipush 10, 2) := by decide +kernel
theorem dX7_stepOn_23 : decode cX7_stepOn 23 = .ok (.if_icmp .ne 16, 3) := by decide +kernel
theorem dX7_stepOn_26 : decode cX7_stepOn 26 = .ok (.aload_n 0, 1) := by decide +kernel
theorem dX7_stepOn_27 : decode cX7_stepOn 27 = .ok (.dup, 1) := by decide +kernel
theorem dX7_stepOn_28 : decode cX7_stepOn 28 = .ok (.getfield 144, 3) := by decide +kernel
theorem dX7_stepOn_31 : decode cX7_stepOn 31 = .ok (.iconst 1, 1) := by decide +kernel
theorem dX7_stepOn_32 : decode cX7_stepOn 32 = .ok (.iadd, 1) := by decide +kernel
theorem dX7_stepOn_33 : decode cX7_stepOn 33 = .ok (.putfield 144, 3) := by decide +kernel
theorem dX7_stepOn_36 : decode cX7_stepOn 36 = .ok (.goto (-36), 3) := by decide +kernel
theorem dX7_stepOn_39 : decode cX7_stepOn 39 = .ok (.aload_n 0, 1) := by decide +kernel
theorem dX7_stepOn_40 : decode cX7_stepOn 40 = .ok (.aload_n 0, 1) := by decide +kernel
theorem dX7_stepOn_41 : decode cX7_stepOn 41 = .ok (.getfield 144, 3) := by decide +kernel
theorem dX7_stepOn_44 : decode cX7_stepOn 44 = .ok (.putfield 151, 3) := by decide +kernel
theorem dX7_stepOn_47 : decode cX7_stepOn 47 = .ok (.aload_n 0, 1) := by decide +kernel
theorem dX7_stepOn_48 : decode cX7_stepOn 48 = .ok (.aload_n 0, 1) := by decide +kernel
theorem dX7_stepOn_49 : decode cX7_stepOn 49 = .ok (.getfield 144, 3) := by decide +kernel
theorem dX7_stepOn_52 : decode cX7_stepOn 52 = .ok (.invokevirtual 147, 3) := by decide +kernel
theorem dX7_stepOn_55 : decode cX7_stepOn 55 = .ok (.istore_n 1, 1) := by decide +kernel
theorem dX7_stepOn_56 : decode cX7_stepOn 56 = .ok (.iload_n 1, 1) := by decide +kernel
theorem dX7_stepOn_57 : decode cX7_stepOn 57 = .ok (.iconst (-1), 1) := by decide +kernel
theorem dX7_stepOn_58 : decode cX7_stepOn 58 = .ok (.if_icmp .ne 11, 3) := by decide +kernel
theorem dX7_stepOn_61 : decode cX7_stepOn 61 = .ok (.aload_n 0, 1) := by decide +kernel
theorem dX7_stepOn_62 : decode cX7_stepOn 62 = .ok (.iconst 0, 1) := by decide +kernel
theorem dX7_stepOn_63 : decode cX7_stepOn 63 = .ok (.putfield 154, 3) := by decide +kernel
theorem dX7_stepOn_66 : decode cX7_stepOn 66 = .ok (.goto 146, 3) := by decide +kernel
theorem dX7_stepOn_69 : decode cX7_stepOn 69 = .ok (.iload_n 1, 1) := by decide +kernel
theorem dX7_stepOn_70 : decode cX7_stepOn 70 = .ok (.invokestatic 157, 3) := by decide +kernel
theorem dX7_stepOn_73 : decode cX7_stepOn 73 = .ok (.ifCond .eq 38, 3) := by decide +kernel
theorem dX7_stepOn_76 : decode cX7_stepOn 76 = .ok (.aload_n 0, 1) := by decide +kernel
theorem dX7_stepOn_77 : decode cX7_stepOn 77 = .ok (.aload_n 0, 1) := by decide +kernel
theorem dX7_stepOn_78 : decode cX7_stepOn 78 = .ok (.getfield 144, 3) := by decide +kernel
theorem dX7_stepOn_81 : decode cX7_stepOn 81 = .ok (.invokevirtual 147, 3) := by decide +kernel
theorem dX7_stepOn_84 : decode cX7_stepOn 84 = .ok (.invokestatic 157, 3) := by decide +kernel
theorem dX7_stepOn_87 : decode cX7_stepOn 87 = .ok (.ifCond .eq 16, 3) := by decide +kernel
theorem dX7_stepOn_90 : decode cX7_stepOn 90 = .ok (.aload_n 0, 1) := by decide +kernel
theorem dX7_stepOn_91 : decode cX7_stepOn 91 = .ok (.dup, 1) := by decide +kernel
theorem dX7_stepOn_92 : decode cX7_stepOn 92 = .ok (.getfield 144, 3) := by decide +kernel
theorem dX7_stepOn_95 : decode cX7_stepOn 95 = .ok (.iconst 1, 1) := by decide +kernel
theorem dX7_stepOn_96 : decode cX7_stepOn 96 = .ok (.iadd, 1) := by decide +kernel
theorem dX7_stepOn_97 : decode cX7_stepOn 97 = .ok (.putfield 144, 3) := by decide +kernel
theorem dX7_stepOn_100 : decode cX7_stepOn 100 = .ok (.goto (-24), 3) := by decide +kernel
theorem dX7_stepOn_103 : decode cX7_stepOn 103 = .ok (.aload_n 0, 1) := by decide +kernel
theorem dX7_stepOn_104 : decode cX7_stepOn 104 = .ok (.iconst 1, 1) := by decide +kernel
theorem dX7_stepOn_105 : decode cX7_stepOn 105 = .ok (.putfield 154, 3) := by decide +kernel
theorem dX7_stepOn_108 : decode cX7_stepOn 108 = .ok (.goto 104, 3) := by decide +kernel
theorem dX7_stepOn_111 : decode cX7_stepOn 111 = .ok (.iload_n 1, 1) := by decide +kernel
theorem dX7_stepOn_112 : decode cX7_stepOn 112 = .ok (.invokestatic 161, 3) := by decide +kernel
theorem dX7_stepOn_115 : decode cX7_stepOn 115 = .ok (.ifCond .eq 72, 3) := by decide +kernel
theorem dX7_stepOn_118 : decode cX7_stepOn 118 = .ok (.aload_n 0, 1) := by decide +kernel
theorem dX7_stepOn_119 : decode cX7_stepOn 119 = .ok (.iconst 0, 1) := by decide +kernel
theorem dX7_stepOn_120 : decode cX7_stepOn 120 = .ok (.putfield 164, 3) := by decide +kernel
theorem dX7_stepOn_123 : decode cX7_stepOn 123 = .ok (.aload_n 0, 1) := by decide +kernel
theorem dX7_stepOn_124 : decode cX7_stepOn 124 = .ok (.aload_n 0, 1) := by decide +kernel
theorem dX7_stepOn_125 : decode cX7_stepOn 125 = .ok (.getfield 144, 3) := by decide +kernel
theorem dX7_stepOn_128 : decode cX7_stepOn 128 = .ok (.invokevirtual 147, 3) := by decide +kernel
theorem dX7_stepOn_131 : decode cX7_stepOn 131 = .ok (.invokestatic 161, 3) := by decide +kernel
theorem dX7_stepOn_134 : decode cX7_stepOn 134 = .ok (.ifCond .eq 45, 3) := by decide +kernel
theorem dX7_stepOn_137 : decode cX7_stepOn 137 = .ok (.aload_n 0, 1) := by decide +kernel
theorem dX7_stepOn_138 : decode cX7_stepOn 138 = .ok (.sipush 10000, 3) := by decide +kernel
theorem dX7_stepOn_141 : decode cX7_stepOn 141 = .ok (.bipush 10, 2) := by decide +kernel
theorem dX7_stepOn_143 : decode cX7_stepOn 143 = .ok (.aload_n 0, 1) := by decide +kernel
theorem dX7_stepOn_144 : decode cX7_stepOn 144 = .ok (.getfield 164, 3) := by decide +kernel
theorem dX7_stepOn_147 : decode cX7_stepOn 147 = .ok (.imul, 1) := by decide +kernel
theorem dX7_stepOn_148 : decode cX7_stepOn 148 = .ok (.aload_n 0, 1) := by decide +kernel
theorem dX7_stepOn_149 : decode cX7_stepOn 149 = .ok (.aload_n 0, 1) := by decide +kernel
theorem dX7_stepOn_150 : decode cX7_stepOn 150 = .ok (.getfield 144, 3) := by decide +kernel
theorem dX7_stepOn_153 : decode cX7_stepOn 153 = .ok (.invokevirtual 147, 3) := by decide +kernel
theorem dX7_stepOn_156 : decode cX7_stepOn 156 = .ok (.iadd, 1) := by decide +kernel
theorem dX7_stepOn_157 : decode cX7_stepOn 157 = .ok (.bipush 48, 2) := by decide +kernel
theorem dX7_stepOn_159 : decode cX7_stepOn 159 = .ok (.isub, 1) := by decide +kernel
theorem dX7_stepOn_160 : decode cX7_stepOn 160 = .ok (.invokestatic 167, 3) := by decide +kernel
theorem dX7_stepOn_163 : decode cX7_stepOn 163 = .ok (.putfield 164, 3) := by decide +kernel
theorem dX7_stepOn_166 : decode cX7_stepOn 166 = .ok (.aload_n 0, 1) := by decide +kernel
theorem dX7_stepOn_167 : decode cX7_stepOn 167 = .ok (.dup, 1) := by decide +kernel
theorem dX7_stepOn_168 : decode cX7_stepOn 168 = .ok (.getfield 144, 3) := by decide +kernel
theorem dX7_stepOn_171 : decode cX7_stepOn 171 = .ok (.iconst 1, 1) := by decide +kernel
theorem dX7_stepOn_172 : decode cX7_stepOn 172 = .ok (.iadd, 1) := by decide +kernel
theorem dX7_stepOn_173 : decode cX7_stepOn 173 = .ok (.putfield 144, 3) := by decide +kernel
theorem dX7_stepOn_176 : decode cX7_stepOn 176 = .ok (.goto (-53), 3) := by decide +kernel
theorem dX7_stepOn_179 : decode cX7_stepOn 179 = .ok (.aload_n 0, 1) := by decide +kernel
theorem dX7_stepOn_180 : decode cX7_stepOn 180 = .ok (.iconst 2, 1) := by decide +kernel
theorem dX7_stepOn_181 : decode cX7_stepOn 181 = .ok (.putfield 154, 3) := by decide +kernel
theorem dX7_stepOn_184 : decode cX7_stepOn 184 = .ok (.goto 28, 3) := by decide +kernel
theorem dX7_stepOn_187 : decode cX7_stepOn 187 = .ok (.aload_n 0, 1) := by decide +kernel
theorem dX7_stepOn_188 : decode cX7_stepOn 188 = .ok (.dup, 1) := by decide +kernel
theorem dX7_stepOn_189 : decode cX7_stepOn 189 = .ok (.getfield 144, 3) := by decide +kernel
theorem dX7_stepOn_192 : decode cX7_stepOn 192 = .ok (.iconst 1, 1) := by decide +kernel
theorem dX7_stepOn_193 : decode cX7_stepOn 193 = .ok (.iadd, 1) := by decide +kernel
theorem dX7_stepOn_194 : decode cX7_stepOn 194 = .ok (.putfield 144, 3) := by decide +kernel
theorem dX7_stepOn_197 : decode cX7_stepOn 197 = .ok (.aload_n 0, 1) := by decide +kernel
theorem dX7_stepOn_198 : decode cX7_stepOn 198 = .ok (.iload_n 1, 1) := by decide +kernel
theorem dX7_stepOn_199 : decode cX7_stepOn 199 = .ok (.bipush 59, 2) := by decide +kernel
theorem dX7_stepOn_201 : decode cX7_stepOn 201 = .ok (.if_icmp .ne 7, 3) := by decide +kernel
theorem dX7_stepOn_204 : decode cX7_stepOn 204 = .ok (.iconst 3, 1) := by decide +kernel
theorem dX7_stepOn_205 : decode cX7_stepOn 205 = .ok (.goto 4, 3) := by decide +kernel
theorem dX7_stepOn_208 : decode cX7_stepOn 208 = .ok (.iconst 4, 1) := by decide +kernel
theorem dX7_stepOn_209 : decode cX7_stepOn 209 = .ok (.putfield 154, 3) := by decide +kernel
theorem dX7_stepOn_212 : decode cX7_stepOn 212 = .ok (.aload_n 0, 1) := by decide +kernel
theorem dX7_stepOn_213 : decode cX7_stepOn 213 = .ok (.aload_n 0, 1) := by decide +kernel
theorem dX7_stepOn_214 : decode cX7_stepOn 214 = .ok (.getfield 144, 3) := by decide +kernel
theorem dX7_stepOn_217 : decode cX7_stepOn 217 = .ok (.putfield 173, 3) := by decide +kernel
theorem dX7_stepOn_220 : decode cX7_stepOn 220 = .ok (.return_, 1) := by decide +kernel
theorem dX7_wrong_0 : decode cX7_wrong 0 = .ok (.aload_n 0, 1) := by decide +kernel
theorem dX7_wrong_1 : decode cX7_wrong 1 = .ok (.getfield 176, 3) := by decide +kernel
theorem dX7_wrong_4 : decode cX7_wrong 4 = .ok (.ifCond .eq 4, 3) := by decide +kernel
theorem dX7_wrong_7 : decode cX7_wrong 7 = .ok (.return_, 1) := by decide +kernel
theorem dX7_wrong_8 : decode cX7_wrong 8 = .ok (.aload_n 0, 1) := by decide +kernel
theorem dX7_wrong_9 : decode cX7_wrong 9 = .ok (.iload_n 1, 1) := by decide +kernel
theorem dX7_wrong_10 : decode cX7_wrong 10 = .ok (.putfield 176, 3) := by decide +kernel
theorem dX7_wrong_13 : decode cX7_wrong 13 = .ok (.aload_n 0, 1) := by decide +kernel
theorem dX7_wrong_14 : decode cX7_wrong 14 = .ok (.aload_n 0, 1) := by decide +kernel
theorem dX7_wrong_15 : decode cX7_wrong 15 = .ok (.getfield 151, 3) := by decide +kernel
theorem dX7_wrong_18 : decode cX7_wrong 18 = .ok (.putfield 179, 3) := by decide +kernel
theorem dX7_wrong_21 : decode cX7_wrong 21 = .ok (.return_, 1) := by decide +kernel
theorem dX7_is_0 : decode cX7_is 0 = .ok (.aload_n 0, 1) := by decide +kernel
theorem dX7_is_1 : decode cX7_is 1 = .ok (.getfield 176, 3) := by decide +kernel
theorem dX7_is_4 : decode cX7_is 4 = .ok (.ifCond .ne 31, 3) := by decide +kernel
theorem dX7_is_7 : decode cX7_is 7 = .ok (.aload_n 0, 1) := by decide +kernel
theorem dX7_is_8 : decode cX7_is 8 = .ok (.getfield 154, 3) := by decide +kernel
theorem dX7_is_11 : decode cX7_is 11 = .ok (.iconst 1, 1) := by decide +kernel
theorem dX7_is_12 : decode cX7_is 12 = .ok (.if_icmp .ne 23, 3) := by decide +kernel
theorem dX7_is_15 : decode cX7_is 15 = .ok (.aload_n 1, 1) := by decide +kernel
theorem dX7_is_16 : decode cX7_is 16 = .ok (.invokevirtual 182, 3) := by decide +kernel
theorem dX7_is_19 : decode cX7_is 19 = .ok (.aload_n 0, 1) := by decide +kernel
theorem dX7_is_20 : decode cX7_is 20 = .ok (.getfield 173, 3) := by decide +kernel
theorem dX7_is_23 : decode cX7_is 23 = .ok (.aload_n 0, 1) := by decide +kernel
theorem dX7_is_24 : decode cX7_is 24 = .ok (.getfield 151, 3) := by decide +kernel
theorem dX7_is_27 : decode cX7_is 27 = .ok (.isub, 1) := by decide +kernel
theorem dX7_is_28 : decode cX7_is 28 = .ok (.if_icmp .ne 7, 3) := by decide +kernel
theorem dX7_is_31 : decode cX7_is 31 = .ok (.iconst 1, 1) := by decide +kernel
theorem dX7_is_32 : decode cX7_is 32 = .ok (.goto 4, 3) := by decide +kernel
theorem dX7_is_35 : decode cX7_is 35 = .ok (.iconst 0, 1) := by decide +kernel
theorem dX7_is_36 : decode cX7_is 36 = .ok (.istore_n 2, 1) := by decide +kernel
theorem dX7_is_37 : decode cX7_is 37 = .ok (.iconst 0, 1) := by decide +kernel
theorem dX7_is_38 : decode cX7_is 38 = .ok (.istore_n 3, 1) := by decide +kernel
theorem dX7_is_39 : decode cX7_is 39 = .ok (.iload_n 2, 1) := by decide +kernel
theorem dX7_is_40 : decode cX7_is 40 = .ok (.ifCond .eq 42, 3) := by decide +kernel
theorem dX7_is_43 : decode cX7_is 43 = .ok (.iload_n 3, 1) := by decide +kernel
theorem dX7_is_44 : decode cX7_is 44 = .ok (.aload_n 1, 1) := by decide +kernel
theorem dX7_is_45 : decode cX7_is 45 = .ok (.invokevirtual 182, 3) := by decide +kernel
theorem dX7_is_48 : decode cX7_is 48 = .ok (.if_icmp .ge 34, 3) := by decide +kernel
theorem dX7_is_51 : decode cX7_is 51 = .ok (.aload_n 1, 1) := by decide +kernel
theorem dX7_is_52 : decode cX7_is 52 = .ok (.iload_n 3, 1) := by decide +kernel
theorem dX7_is_53 : decode cX7_is 53 = .ok (.invokevirtual 186, 3) := by decide +kernel
theorem dX7_is_56 : decode cX7_is 56 = .ok (.aload_n 0, 1) := by decide +kernel
theorem dX7_is_57 : decode cX7_is 57 = .ok (.getfield 70, 3) := by decide +kernel
theorem dX7_is_60 : decode cX7_is 60 = .ok (.aload_n 0, 1) := by decide +kernel
theorem dX7_is_61 : decode cX7_is 61 = .ok (.getfield 151, 3) := by decide +kernel
theorem dX7_is_64 : decode cX7_is 64 = .ok (.iload_n 3, 1) := by decide +kernel
theorem dX7_is_65 : decode cX7_is 65 = .ok (.iadd, 1) := by decide +kernel
theorem dX7_is_66 : decode cX7_is 66 = .ok (.iaload, 1) := by decide +kernel
theorem dX7_is_67 : decode cX7_is 67 = .ok (.if_icmp .ne 7, 3) := by decide +kernel
theorem dX7_is_70 : decode cX7_is 70 = .ok (.iconst 1, 1) := by decide +kernel
theorem dX7_is_71 : decode cX7_is 71 = .ok (.goto 4, 3) := by decide +kernel
theorem dX7_is_74 : decode cX7_is 74 = .ok (.iconst 0, 1) := by decide +kernel
theorem dX7_is_75 : decode cX7_is 75 = .ok (.istore_n 2, 1) := by decide +kernel
theorem dX7_is_76 : decode cX7_is 76 = .ok (.iinc 3 1, 3) := by decide +kernel
theorem dX7_is_79 : decode cX7_is 79 = .ok (.goto (-40), 3) := by decide +kernel
theorem dX7_is_82 : decode cX7_is 82 = .ok (.iload_n 2, 1) := by decide +kernel
theorem dX7_is_83 : decode cX7_is 83 = .ok (.ireturn, 1) := by decide +kernel
theorem dX7_which_0 : decode cX7_which 0 = .ok (.iconst 0, 1) := by decide +kernel
theorem dX7_which_1 : decode cX7_which 1 = .ok (.istore_n 2, 1) := by decide +kernel
theorem dX7_which_2 : decode cX7_which 2 = .ok (.iload_n 2, 1) := by decide +kernel
theorem dX7_which_3 : decode cX7_which 3 = .ok (.aload_n 1, 1) := by decide +kernel
theorem dX7_which_4 : decode cX7_which 4 = .ok (.arraylength, 1) := by decide +kernel
theorem dX7_which_5 : decode cX7_which 5 = .ok (.if_icmp .ge 21, 3) := by decide +kernel
theorem dX7_which_8 : decode cX7_which 8 = .ok (.aload_n 0, 1) := by decide +kernel
theorem dX7_which_9 : decode cX7_which 9 = .ok (.aload_n 1, 1) := by decide +kernel
theorem dX7_which_10 : decode cX7_which 10 = .ok (.iload_n 2, 1) := by decide +kernel
theorem dX7_which_11 : decode cX7_which 11 = .ok (.aaload, 1) := by decide +kernel
theorem dX7_which_12 : decode cX7_which 12 = .ok (.invokevirtual 190, 3) := by decide +kernel
theorem dX7_which_15 : decode cX7_which 15 = .ok (.ifCond .eq 5, 3) := by decide +kernel
theorem dX7_which_18 : decode cX7_which 18 = .ok (.iload_n 2, 1) := by decide +kernel
theorem dX7_which_19 : decode cX7_which 19 = .ok (.ireturn, 1) := by decide +kernel
theorem dX7_which_20 : decode cX7_which 20 = .ok (.iinc 2 1, 3) := by decide +kernel
theorem dX7_which_23 : decode cX7_which 23 = .ok (.goto (-21), 3) := by decide +kernel
theorem dX7_which_26 : decode cX7_which 26 = .ok (.iconst (-1), 1) := by decide +kernel
theorem dX7_which_27 : decode cX7_which 27 = .ok (.ireturn, 1) := by decide +kernel
theorem dX7_numberNow_0 : decode cX7_numberNow 0 = .ok (.aload_n 0, 1) := by decide +kernel
theorem dX7_numberNow_1 : decode cX7_numberNow 1 = .ok (.getfield 176, 3) := by decide +kernel
theorem dX7_numberNow_4 : decode cX7_numberNow 4 = .ok (.ifCond .eq 5, 3) := by decide +kernel
theorem dX7_numberNow_7 : decode cX7_numberNow 7 = .ok (.iconst 0, 1) := by decide +kernel
theorem dX7_numberNow_8 : decode cX7_numberNow 8 = .ok (.ireturn, 1) := by decide +kernel
theorem dX7_numberNow_9 : decode cX7_numberNow 9 = .ok (.aload_n 0, 1) := by decide +kernel
theorem dX7_numberNow_10 : decode cX7_numberNow 10 = .ok (.getfield 154, 3) := by decide +kernel
theorem dX7_numberNow_13 : decode cX7_numberNow 13 = .ok (.iconst 2, 1) := by decide +kernel
theorem dX7_numberNow_14 : decode cX7_numberNow 14 = .ok (.if_icmp .eq 11, 3) := by decide +kernel
theorem dX7_numberNow_17 : decode cX7_numberNow 17 = .ok (.aload_n 0, 1) := by decide +kernel
theorem dX7_numberNow_18 : decode cX7_numberNow 18 = .ok (.iconst 1, 1) := by decide +kernel
theorem dX7_numberNow_19 : decode cX7_numberNow 19 = .ok (.invokevirtual 194, 3) := by decide +kernel
theorem dX7_numberNow_22 : decode cX7_numberNow 22 = .ok (.goto 37, 3) := by decide +kernel
theorem dX7_numberNow_25 : decode cX7_numberNow 25 = .ok (.aload_n 0, 1) := by decide +kernel
theorem dX7_numberNow_26 : decode cX7_numberNow 26 = .ok (.getfield 173, 3) := by decide +kernel
theorem dX7_numberNow_29 : decode cX7_numberNow 29 = .ok (.aload_n 0, 1) := by decide +kernel
theorem dX7_numberNow_30 : decode cX7_numberNow 30 = .ok (.getfield 151, 3) := by decide +kernel
theorem dX7_numberNow_33 : decode cX7_numberNow 33 = .ok (.isub, 1) := by decide +kernel
theorem dX7_numberNow_34 : decode cX7_numberNow 34 = .ok (.iconst 3, 1) := by decide +kernel
theorem dX7_numberNow_35 : decode cX7_numberNow 35 = .ok (.if_icmp .gt 19, 3) := by decide +kernel
theorem dX7_numberNow_38 : decode cX7_numberNow 38 = .ok (.aload_n 0, 1) := by decide +kernel
theorem dX7_numberNow_39 : decode cX7_numberNow 39 = .ok (.getfield 164, 3) := by decide +kernel
theorem dX7_numberNow_42 : decode cX7_numberNow 42 = .ok (.iload_n 1, 1) := by decide +kernel
theorem dX7_numberNow_43 : decode cX7_numberNow 43 = .ok (.if_icmp .lt 11, 3) := by decide +kernel
theorem dX7_numberNow_46 : decode cX7_numberNow 46 = .ok (.aload_n 0, 1) := by decide +kernel
theorem dX7_numberNow_47 : decode cX7_numberNow 47 = .ok (.getfield 164, 3) := by decide +kernel
theorem dX7_numberNow_50 : decode cX7_numberNow 50 = .ok (.iload_n 2, 1) := by decide +kernel
theorem dX7_numberNow_51 : decode cX7_numberNow 51 = .ok (.if_icmp .le 8, 3) := by decide +kernel
theorem dX7_numberNow_54 : decode cX7_numberNow 54 = .ok (.aload_n 0, 1) := by decide +kernel
theorem dX7_numberNow_55 : decode cX7_numberNow 55 = .ok (.iconst 2, 1) := by decide +kernel
theorem dX7_numberNow_56 : decode cX7_numberNow 56 = .ok (.invokevirtual 194, 3) := by decide +kernel
theorem dX7_numberNow_59 : decode cX7_numberNow 59 = .ok (.aload_n 0, 1) := by decide +kernel
theorem dX7_numberNow_60 : decode cX7_numberNow 60 = .ok (.getfield 176, 3) := by decide +kernel
theorem dX7_numberNow_63 : decode cX7_numberNow 63 = .ok (.ifCond .ne 10, 3) := by decide +kernel
theorem dX7_numberNow_66 : decode cX7_numberNow 66 = .ok (.aload_n 0, 1) := by decide +kernel
theorem dX7_numberNow_67 : decode cX7_numberNow 67 = .ok (.getfield 164, 3) := by decide +kernel
theorem dX7_numberNow_70 : decode cX7_numberNow 70 = .ok (.goto 4, 3) := by decide +kernel
theorem dX7_numberNow_73 : decode cX7_numberNow 73 = .ok (.iconst 0, 1) := by decide +kernel
theorem dX7_numberNow_74 : decode cX7_numberNow 74 = .ok (.ireturn, 1) := by decide +kernel
theorem dX7_readNumber_0 : decode cX7_readNumber 0 = .ok (.aload_n 0, 1) := by decide +kernel
theorem dX7_readNumber_1 : decode cX7_readNumber 1 = .ok (.iload_n 1, 1) := by decide +kernel
theorem dX7_readNumber_2 : decode cX7_readNumber 2 = .ok (.iload_n 2, 1) := by decide +kernel
theorem dX7_readNumber_3 : decode cX7_readNumber 3 = .ok (.invokevirtual 198, 3) := by decide +kernel
theorem dX7_readNumber_6 : decode cX7_readNumber 6 = .ok (.istore_n 3, 1) := by decide +kernel
theorem dX7_readNumber_7 : decode cX7_readNumber 7 = .ok (.aload_n 0, 1) := by decide +kernel
theorem dX7_readNumber_8 : decode cX7_readNumber 8 = .ok (.getfield 176, 3) := by decide +kernel
theorem dX7_readNumber_11 : decode cX7_readNumber 11 = .ok (.ifCond .ne 7, 3) := by decide +kernel
theorem dX7_readNumber_14 : decode cX7_readNumber 14 = .ok (.aload_n 0, 1) := by decide +kernel
theorem dX7_readNumber_15 : decode cX7_readNumber 15 = .ok (.invokevirtual 201, 3) := by decide +kernel
theorem dX7_readNumber_18 : decode cX7_readNumber 18 = .ok (.iload_n 3, 1) := by decide +kernel
theorem dX7_readNumber_19 : decode cX7_readNumber 19 = .ok (.ireturn, 1) := by decide +kernel
theorem dX7_lampNow_0 : decode cX7_lampNow 0 = .ok (.aload_n 0, 1) := by decide +kernel
theorem dX7_lampNow_1 : decode cX7_lampNow 1 = .ok (.iconst 0, 1) := by decide +kernel
theorem dX7_lampNow_2 : decode cX7_lampNow 2 = .ok (.sipush 999, 3) := by decide +kernel
theorem dX7_lampNow_5 : decode cX7_lampNow 5 = .ok (.invokevirtual 198, 3) := by decide +kernel
theorem dX7_lampNow_8 : decode cX7_lampNow 8 = .ok (.istore_n 1, 1) := by decide +kernel
theorem dX7_lampNow_9 : decode cX7_lampNow 9 = .ok (.aload_n 0, 1) := by decide +kernel
theorem dX7_lampNow_10 : decode cX7_lampNow 10 = .ok (.getfield 176, 3) := by decide +kernel
theorem dX7_lampNow_13 : decode cX7_lampNow 13 = .ok (.ifCond .ne 19, 3) := by decide +kernel
theorem dX7_lampNow_16 : decode cX7_lampNow 16 = .ok (.iload_n 1, 1) := by decide +kernel
theorem dX7_lampNow_17 : decode cX7_lampNow 17 = .ok (.aload_n 0, 1) := by decide +kernel
theorem dX7_lampNow_18 : decode cX7_lampNow 18 = .ok (.getfield 43, 3) := by decide +kernel
theorem dX7_lampNow_21 : decode cX7_lampNow 21 = .ok (.bipush 8, 2) := by decide +kernel
theorem dX7_lampNow_23 : decode cX7_lampNow 23 = .ok (.iaload, 1) := by decide +kernel
theorem dX7_lampNow_24 : decode cX7_lampNow 24 = .ok (.if_icmp .lt 8, 3) := by decide +kernel
theorem dX7_lampNow_27 : decode cX7_lampNow 27 = .ok (.aload_n 0, 1) := by decide +kernel
theorem dX7_lampNow_28 : decode cX7_lampNow 28 = .ok (.iconst 3, 1) := by decide +kernel
theorem dX7_lampNow_29 : decode cX7_lampNow 29 = .ok (.invokevirtual 194, 3) := by decide +kernel
theorem dX7_lampNow_32 : decode cX7_lampNow 32 = .ok (.aload_n 0, 1) := by decide +kernel
theorem dX7_lampNow_33 : decode cX7_lampNow 33 = .ok (.getfield 176, 3) := by decide +kernel
theorem dX7_lampNow_36 : decode cX7_lampNow 36 = .ok (.ifCond .ne 7, 3) := by decide +kernel
theorem dX7_lampNow_39 : decode cX7_lampNow 39 = .ok (.iload_n 1, 1) := by decide +kernel
theorem dX7_lampNow_40 : decode cX7_lampNow 40 = .ok (.goto 4, 3) := by decide +kernel
theorem dX7_lampNow_43 : decode cX7_lampNow 43 = .ok (.iconst 0, 1) := by decide +kernel
theorem dX7_lampNow_44 : decode cX7_lampNow 44 = .ok (.ireturn, 1) := by decide +kernel
theorem dX7_readLamp_0 : decode cX7_readLamp 0 = .ok (.aload_n 0, 1) := by decide +kernel
theorem dX7_readLamp_1 : decode cX7_readLamp 1 = .ok (.invokevirtual 204, 3) := by decide +kernel
theorem dX7_readLamp_4 : decode cX7_readLamp 4 = .ok (.istore_n 1, 1) := by decide +kernel
theorem dX7_readLamp_5 : decode cX7_readLamp 5 = .ok (.aload_n 0, 1) := by decide +kernel
theorem dX7_readLamp_6 : decode cX7_readLamp 6 = .ok (.getfield 176, 3) := by decide +kernel
theorem dX7_readLamp_9 : decode cX7_readLamp 9 = .ok (.ifCond .ne 7, 3) := by decide +kernel
end
section
theorem dX7_readLamp_12 : decode cX7_readLamp 12 = .ok (.aload_n 0, 1) := by decide +kernel
theorem dX7_readLamp_13 : decode cX7_readLamp 13 = .ok (.invokevirtual 201, 3) := by decide +kernel
theorem dX7_readLamp_16 : decode cX7_readLamp 16 = .ok (.iload_n 1, 1) := by decide +kernel
theorem dX7_readLamp_17 : decode cX7_readLamp 17 = .ok (.ireturn, 1) := by decide +kernel
theorem dX7_readNewLamp_0 : decode cX7_readNewLamp 0 = .ok (.aload_n 0, 1) := by decide +kernel
theorem dX7_readNewLamp_1 : decode cX7_readNewLamp 1 = .ok (.getfield 43, 3) := by decide +kernel
theorem dX7_readNewLamp_4 : decode cX7_readNewLamp 4 = .ok (.bipush 8, 2) := by decide +kernel
theorem dX7_readNewLamp_6 : decode cX7_readNewLamp 6 = .ok (.iaload, 1) := by decide +kernel
theorem dX7_readNewLamp_7 : decode cX7_readNewLamp 7 = .ok (.bipush 6, 2) := by decide +kernel
theorem dX7_readNewLamp_9 : decode cX7_readNewLamp 9 = .ok (.if_icmp .ne 8, 3) := by decide +kernel
theorem dX7_readNewLamp_12 : decode cX7_readNewLamp 12 = .ok (.aload_n 0, 1) := by decide +kernel
theorem dX7_readNewLamp_13 : decode cX7_readNewLamp 13 = .ok (.iconst 2, 1) := by decide +kernel
theorem dX7_readNewLamp_14 : decode cX7_readNewLamp 14 = .ok (.invokevirtual 194, 3) := by decide +kernel
theorem dX7_readNewLamp_17 : decode cX7_readNewLamp 17 = .ok (.aload_n 0, 1) := by decide +kernel
theorem dX7_readNewLamp_18 : decode cX7_readNewLamp 18 = .ok (.getfield 176, 3) := by decide +kernel
theorem dX7_readNewLamp_21 : decode cX7_readNewLamp 21 = .ok (.ifCond .eq 4, 3) := by decide +kernel
theorem dX7_readNewLamp_24 : decode cX7_readNewLamp 24 = .ok (.return_, 1) := by decide +kernel
theorem dX7_readNewLamp_25 : decode cX7_readNewLamp 25 = .ok (.aload_n 0, 1) := by decide +kernel
theorem dX7_readNewLamp_26 : decode cX7_readNewLamp 26 = .ok (.invokevirtual 201, 3) := by decide +kernel
theorem dX7_readNewLamp_29 : decode cX7_readNewLamp 29 = .ok (.bipush 6, 2) := by decide +kernel
theorem dX7_readNewLamp_31 : decode cX7_readNewLamp 31 = .ok (.aload_n 0, 1) := by decide +kernel
theorem dX7_readNewLamp_32 : decode cX7_readNewLamp 32 = .ok (.getfield 43, 3) := by decide +kernel
theorem dX7_readNewLamp_35 : decode cX7_readNewLamp 35 = .ok (.bipush 8, 2) := by decide +kernel
theorem dX7_readNewLamp_37 : decode cX7_readNewLamp 37 = .ok (.iaload, 1) := by decide +kernel
theorem dX7_readNewLamp_38 : decode cX7_readNewLamp 38 = .ok (.iadd, 1) := by decide +kernel
theorem dX7_readNewLamp_39 : decode cX7_readNewLamp 39 = .ok (.istore_n 2, 1) := by decide +kernel
theorem dX7_readNewLamp_40 : decode cX7_readNewLamp 40 = .ok (.aload_n 0, 1) := by decide +kernel
theorem dX7_readNewLamp_41 : decode cX7_readNewLamp 41 = .ok (.getfield 46, 3) := by decide +kernel
theorem dX7_readNewLamp_44 : decode cX7_readNewLamp 44 = .ok (.iload_n 2, 1) := by decide +kernel
theorem dX7_readNewLamp_45 : decode cX7_readNewLamp 45 = .ok (.iload_n 1, 1) := by decide +kernel
theorem dX7_readNewLamp_46 : decode cX7_readNewLamp 46 = .ok (.iastore, 1) := by decide +kernel
theorem dX7_readNewLamp_47 : decode cX7_readNewLamp 47 = .ok (.aload_n 0, 1) := by decide +kernel
theorem dX7_readNewLamp_48 : decode cX7_readNewLamp 48 = .ok (.getfield 49, 3) := by decide +kernel
theorem dX7_readNewLamp_51 : decode cX7_readNewLamp 51 = .ok (.iload_n 2, 1) := by decide +kernel
theorem dX7_readNewLamp_52 : decode cX7_readNewLamp 52 = .ok (.aload_n 0, 1) := by decide +kernel
theorem dX7_readNewLamp_53 : decode cX7_readNewLamp 53 = .ok (.iconst 0, 1) := by decide +kernel
theorem dX7_readNewLamp_54 : decode cX7_readNewLamp 54 = .ok (.iconst 1, 1) := by decide +kernel
theorem dX7_readNewLamp_55 : decode cX7_readNewLamp 55 = .ok (.invokevirtual 207, 3) := by decide +kernel
theorem dX7_readNewLamp_58 : decode cX7_readNewLamp 58 = .ok (.iastore, 1) := by decide +kernel
theorem dX7_readNewLamp_59 : decode cX7_readNewLamp 59 = .ok (.aload_n 0, 1) := by decide +kernel
theorem dX7_readNewLamp_60 : decode cX7_readNewLamp 60 = .ok (.iconst 0, 1) := by decide +kernel
theorem dX7_readNewLamp_61 : decode cX7_readNewLamp 61 = .ok (.aload_n 0, 1) := by decide +kernel
theorem dX7_readNewLamp_62 : decode cX7_readNewLamp 62 = .ok (.getfield 43, 3) := by decide +kernel
theorem dX7_readNewLamp_65 : decode cX7_readNewLamp 65 = .ok (.bipush 7, 2) := by decide +kernel
theorem dX7_readNewLamp_67 : decode cX7_readNewLamp 67 = .ok (.iaload, 1) := by decide +kernel
theorem dX7_readNewLamp_68 : decode cX7_readNewLamp 68 = .ok (.invokevirtual 207, 3) := by decide +kernel
theorem dX7_readNewLamp_71 : decode cX7_readNewLamp 71 = .ok (.istore_n 3, 1) := by decide +kernel
theorem dX7_readNewLamp_72 : decode cX7_readNewLamp 72 = .ok (.aload_n 0, 1) := by decide +kernel
theorem dX7_readNewLamp_73 : decode cX7_readNewLamp 73 = .ok (.iconst 0, 1) := by decide +kernel
theorem dX7_readNewLamp_74 : decode cX7_readNewLamp 74 = .ok (.aload_n 0, 1) := by decide +kernel
theorem dX7_readNewLamp_75 : decode cX7_readNewLamp 75 = .ok (.getfield 43, 3) := by decide +kernel
theorem dX7_readNewLamp_78 : decode cX7_readNewLamp 78 = .ok (.bipush 7, 2) := by decide +kernel
theorem dX7_readNewLamp_80 : decode cX7_readNewLamp 80 = .ok (.iaload, 1) := by decide +kernel
theorem dX7_readNewLamp_81 : decode cX7_readNewLamp 81 = .ok (.iload_n 3, 1) := by decide +kernel
theorem dX7_readNewLamp_82 : decode cX7_readNewLamp 82 = .ok (.isub, 1) := by decide +kernel
theorem dX7_readNewLamp_83 : decode cX7_readNewLamp 83 = .ok (.invokevirtual 207, 3) := by decide +kernel
theorem dX7_readNewLamp_86 : decode cX7_readNewLamp 86 = .ok (.istore 4, 2) := by decide +kernel
theorem dX7_readNewLamp_88 : decode cX7_readNewLamp 88 = .ok (.aload_n 0, 1) := by decide +kernel
theorem dX7_readNewLamp_89 : decode cX7_readNewLamp 89 = .ok (.getfield 52, 3) := by decide +kernel
theorem dX7_readNewLamp_92 : decode cX7_readNewLamp 92 = .ok (.iconst 3, 1) := by decide +kernel
theorem dX7_readNewLamp_93 : decode cX7_readNewLamp 93 = .ok (.iload_n 2, 1) := by decide +kernel
theorem dX7_readNewLamp_94 : decode cX7_readNewLamp 94 = .ok (.imul, 1) := by decide +kernel
theorem dX7_readNewLamp_95 : decode cX7_readNewLamp 95 = .ok (.iload_n 3, 1) := by decide +kernel
theorem dX7_readNewLamp_96 : decode cX7_readNewLamp 96 = .ok (.iastore, 1) := by decide +kernel
theorem dX7_readNewLamp_97 : decode cX7_readNewLamp 97 = .ok (.aload_n 0, 1) := by decide +kernel
theorem dX7_readNewLamp_98 : decode cX7_readNewLamp 98 = .ok (.getfield 52, 3) := by decide +kernel
theorem dX7_readNewLamp_101 : decode cX7_readNewLamp 101 = .ok (.iconst 3, 1) := by decide +kernel
theorem dX7_readNewLamp_102 : decode cX7_readNewLamp 102 = .ok (.iload_n 2, 1) := by decide +kernel
theorem dX7_readNewLamp_103 : decode cX7_readNewLamp 103 = .ok (.imul, 1) := by decide +kernel
theorem dX7_readNewLamp_104 : decode cX7_readNewLamp 104 = .ok (.iconst 1, 1) := by decide +kernel
theorem dX7_readNewLamp_105 : decode cX7_readNewLamp 105 = .ok (.iadd, 1) := by decide +kernel
theorem dX7_readNewLamp_106 : decode cX7_readNewLamp 106 = .ok (.iload 4, 2) := by decide +kernel
theorem dX7_readNewLamp_108 : decode cX7_readNewLamp 108 = .ok (.iastore, 1) := by decide +kernel
theorem dX7_readNewLamp_109 : decode cX7_readNewLamp 109 = .ok (.aload_n 0, 1) := by decide +kernel
theorem dX7_readNewLamp_110 : decode cX7_readNewLamp 110 = .ok (.getfield 52, 3) := by decide +kernel
theorem dX7_readNewLamp_113 : decode cX7_readNewLamp 113 = .ok (.iconst 3, 1) := by decide +kernel
theorem dX7_readNewLamp_114 : decode cX7_readNewLamp 114 = .ok (.iload_n 2, 1) := by decide +kernel
theorem dX7_readNewLamp_115 : decode cX7_readNewLamp 115 = .ok (.imul, 1) := by decide +kernel
theorem dX7_readNewLamp_116 : decode cX7_readNewLamp 116 = .ok (.iconst 2, 1) := by decide +kernel
theorem dX7_readNewLamp_117 : decode cX7_readNewLamp 117 = .ok (.iadd, 1) := by decide +kernel
theorem dX7_readNewLamp_118 : decode cX7_readNewLamp 118 = .ok (.aload_n 0, 1) := by decide +kernel
theorem dX7_readNewLamp_119 : decode cX7_readNewLamp 119 = .ok (.getfield 43, 3) := by decide +kernel
theorem dX7_readNewLamp_122 : decode cX7_readNewLamp 122 = .ok (.bipush 7, 2) := by decide +kernel
theorem dX7_readNewLamp_124 : decode cX7_readNewLamp 124 = .ok (.iaload, 1) := by decide +kernel
theorem dX7_readNewLamp_125 : decode cX7_readNewLamp 125 = .ok (.iload_n 3, 1) := by decide +kernel
theorem dX7_readNewLamp_126 : decode cX7_readNewLamp 126 = .ok (.isub, 1) := by decide +kernel
theorem dX7_readNewLamp_127 : decode cX7_readNewLamp 127 = .ok (.iload 4, 2) := by decide +kernel
theorem dX7_readNewLamp_129 : decode cX7_readNewLamp 129 = .ok (.isub, 1) := by decide +kernel
theorem dX7_readNewLamp_130 : decode cX7_readNewLamp 130 = .ok (.iastore, 1) := by decide +kernel
theorem dX7_readNewLamp_131 : decode cX7_readNewLamp 131 = .ok (.aload_n 0, 1) := by decide +kernel
theorem dX7_readNewLamp_132 : decode cX7_readNewLamp 132 = .ok (.getfield 55, 3) := by decide +kernel
theorem dX7_readNewLamp_135 : decode cX7_readNewLamp 135 = .ok (.iload_n 2, 1) := by decide +kernel
theorem dX7_readNewLamp_136 : decode cX7_readNewLamp 136 = .ok (.iconst (-1), 1) := by decide +kernel
theorem dX7_readNewLamp_137 : decode cX7_readNewLamp 137 = .ok (.iastore, 1) := by decide +kernel
theorem dX7_readNewLamp_138 : decode cX7_readNewLamp 138 = .ok (.aload_n 0, 1) := by decide +kernel
theorem dX7_readNewLamp_139 : decode cX7_readNewLamp 139 = .ok (.getfield 43, 3) := by decide +kernel
theorem dX7_readNewLamp_142 : decode cX7_readNewLamp 142 = .ok (.bipush 8, 2) := by decide +kernel
theorem dX7_readNewLamp_144 : decode cX7_readNewLamp 144 = .ok (.dup2, 1) := by decide +kernel
theorem dX7_readNewLamp_145 : decode cX7_readNewLamp 145 = .ok (.iaload, 1) := by decide +kernel
theorem dX7_readNewLamp_146 : decode cX7_readNewLamp 146 = .ok (.iconst 1, 1) := by decide +kernel
theorem dX7_readNewLamp_147 : decode cX7_readNewLamp 147 = .ok (.iadd, 1) := by decide +kernel
theorem dX7_readNewLamp_148 : decode cX7_readNewLamp 148 = .ok (.iastore, 1) := by decide +kernel
theorem dX7_readNewLamp_149 : decode cX7_readNewLamp 149 = .ok (.return_, 1) := by decide +kernel
theorem dX7_readLikes_0 : decode cX7_readLikes 0 = .ok (.aload_n 0, 1) := by decide +kernel
theorem dX7_readLikes_1 : decode cX7_readLikes 1 = .ok (.invokevirtual 201, 3) := by decide +kernel
theorem dX7_readLikes_4 : decode cX7_readLikes 4 = .ok (.aload_n 0, 1) := by decide +kernel
theorem dX7_readLikes_5 : decode cX7_readLikes 5 = .ok (.invokevirtual 204, 3) := by decide +kernel
theorem dX7_readLikes_8 : decode cX7_readLikes 8 = .ok (.istore_n 1, 1) := by decide +kernel
theorem dX7_readLikes_9 : decode cX7_readLikes 9 = .ok (.aload_n 0, 1) := by decide +kernel
theorem dX7_readLikes_10 : decode cX7_readLikes 10 = .ok (.getfield 176, 3) := by decide +kernel
theorem dX7_readLikes_13 : decode cX7_readLikes 13 = .ok (.ifCond .ne 21, 3) := by decide +kernel
theorem dX7_readLikes_16 : decode cX7_readLikes 16 = .ok (.aload_n 0, 1) := by decide +kernel
theorem dX7_readLikes_17 : decode cX7_readLikes 17 = .ok (.getfield 55, 3) := by decide +kernel
theorem dX7_readLikes_20 : decode cX7_readLikes 20 = .ok (.bipush 6, 2) := by decide +kernel
theorem dX7_readLikes_22 : decode cX7_readLikes 22 = .ok (.iload_n 1, 1) := by decide +kernel
theorem dX7_readLikes_23 : decode cX7_readLikes 23 = .ok (.iadd, 1) := by decide +kernel
theorem dX7_readLikes_24 : decode cX7_readLikes 24 = .ok (.iaload, 1) := by decide +kernel
theorem dX7_readLikes_25 : decode cX7_readLikes 25 = .ok (.iconst (-1), 1) := by decide +kernel
theorem dX7_readLikes_26 : decode cX7_readLikes 26 = .ok (.if_icmp .eq 8, 3) := by decide +kernel
theorem dX7_readLikes_29 : decode cX7_readLikes 29 = .ok (.aload_n 0, 1) := by decide +kernel
theorem dX7_readLikes_30 : decode cX7_readLikes 30 = .ok (.iconst 5, 1) := by decide +kernel
theorem dX7_readLikes_31 : decode cX7_readLikes 31 = .ok (.invokevirtual 194, 3) := by decide +kernel
theorem dX7_readLikes_34 : decode cX7_readLikes 34 = .ok (.aload_n 0, 1) := by decide +kernel
theorem dX7_readLikes_35 : decode cX7_readLikes 35 = .ok (.getfield 176, 3) := by decide +kernel
theorem dX7_readLikes_38 : decode cX7_readLikes 38 = .ok (.ifCond .ne 7, 3) := by decide +kernel
theorem dX7_readLikes_41 : decode cX7_readLikes 41 = .ok (.aload_n 0, 1) := by decide +kernel
theorem dX7_readLikes_42 : decode cX7_readLikes 42 = .ok (.invokevirtual 201, 3) := by decide +kernel
theorem dX7_readLikes_45 : decode cX7_readLikes 45 = .ok (.aload_n 0, 1) := by decide +kernel
theorem dX7_readLikes_46 : decode cX7_readLikes 46 = .ok (.invokevirtual 204, 3) := by decide +kernel
theorem dX7_readLikes_49 : decode cX7_readLikes 49 = .ok (.istore_n 2, 1) := by decide +kernel
theorem dX7_readLikes_50 : decode cX7_readLikes 50 = .ok (.aload_n 0, 1) := by decide +kernel
theorem dX7_readLikes_51 : decode cX7_readLikes 51 = .ok (.getfield 176, 3) := by decide +kernel
theorem dX7_readLikes_54 : decode cX7_readLikes 54 = .ok (.ifCond .ne 13, 3) := by decide +kernel
theorem dX7_readLikes_57 : decode cX7_readLikes 57 = .ok (.iload_n 1, 1) := by decide +kernel
theorem dX7_readLikes_58 : decode cX7_readLikes 58 = .ok (.iload_n 2, 1) := by decide +kernel
theorem dX7_readLikes_59 : decode cX7_readLikes 59 = .ok (.if_icmp .ne 8, 3) := by decide +kernel
theorem dX7_readLikes_62 : decode cX7_readLikes 62 = .ok (.aload_n 0, 1) := by decide +kernel
theorem dX7_readLikes_63 : decode cX7_readLikes 63 = .ok (.iconst 5, 1) := by decide +kernel
theorem dX7_readLikes_64 : decode cX7_readLikes 64 = .ok (.invokevirtual 194, 3) := by decide +kernel
theorem dX7_readLikes_67 : decode cX7_readLikes 67 = .ok (.aload_n 0, 1) := by decide +kernel
theorem dX7_readLikes_68 : decode cX7_readLikes 68 = .ok (.getfield 176, 3) := by decide +kernel
theorem dX7_readLikes_71 : decode cX7_readLikes 71 = .ok (.ifCond .eq 4, 3) := by decide +kernel
theorem dX7_readLikes_74 : decode cX7_readLikes 74 = .ok (.return_, 1) := by decide +kernel
theorem dX7_readLikes_75 : decode cX7_readLikes 75 = .ok (.aload_n 0, 1) := by decide +kernel
theorem dX7_readLikes_76 : decode cX7_readLikes 76 = .ok (.invokevirtual 201, 3) := by decide +kernel
theorem dX7_readLikes_79 : decode cX7_readLikes 79 = .ok (.aload_n 0, 1) := by decide +kernel
theorem dX7_readLikes_80 : decode cX7_readLikes 80 = .ok (.getfield 55, 3) := by decide +kernel
theorem dX7_readLikes_83 : decode cX7_readLikes 83 = .ok (.bipush 6, 2) := by decide +kernel
theorem dX7_readLikes_85 : decode cX7_readLikes 85 = .ok (.iload_n 1, 1) := by decide +kernel
theorem dX7_readLikes_86 : decode cX7_readLikes 86 = .ok (.iadd, 1) := by decide +kernel
theorem dX7_readLikes_87 : decode cX7_readLikes 87 = .ok (.iload_n 2, 1) := by decide +kernel
theorem dX7_readLikes_88 : decode cX7_readLikes 88 = .ok (.iastore, 1) := by decide +kernel
theorem dX7_readLikes_89 : decode cX7_readLikes 89 = .ok (.return_, 1) := by decide +kernel
theorem dX7_readFog_0 : decode cX7_readFog 0 = .ok (.aload_n 0, 1) := by decide +kernel
theorem dX7_readFog_1 : decode cX7_readFog 1 = .ok (.getfield 43, 3) := by decide +kernel
theorem dX7_readFog_4 : decode cX7_readFog 4 = .ok (.bipush 13, 2) := by decide +kernel
theorem dX7_readFog_6 : decode cX7_readFog 6 = .ok (.iaload, 1) := by decide +kernel
theorem dX7_readFog_7 : decode cX7_readFog 7 = .ok (.bipush 10, 2) := by decide +kernel
theorem dX7_readFog_9 : decode cX7_readFog 9 = .ok (.if_icmp .ne 8, 3) := by decide +kernel
theorem dX7_readFog_12 : decode cX7_readFog 12 = .ok (.aload_n 0, 1) := by decide +kernel
theorem dX7_readFog_13 : decode cX7_readFog 13 = .ok (.iconst 2, 1) := by decide +kernel
theorem dX7_readFog_14 : decode cX7_readFog 14 = .ok (.invokevirtual 194, 3) := by decide +kernel
theorem dX7_readFog_17 : decode cX7_readFog 17 = .ok (.aload_n 0, 1) := by decide +kernel
theorem dX7_readFog_18 : decode cX7_readFog 18 = .ok (.getfield 176, 3) := by decide +kernel
theorem dX7_readFog_21 : decode cX7_readFog 21 = .ok (.ifCond .eq 4, 3) := by decide +kernel
theorem dX7_readFog_24 : decode cX7_readFog 24 = .ok (.return_, 1) := by decide +kernel
theorem dX7_readFog_25 : decode cX7_readFog 25 = .ok (.aload_n 0, 1) := by decide +kernel
theorem dX7_readFog_26 : decode cX7_readFog 26 = .ok (.invokevirtual 201, 3) := by decide +kernel
theorem dX7_readFog_29 : decode cX7_readFog 29 = .ok (.bipush 10, 2) := by decide +kernel
theorem dX7_readFog_31 : decode cX7_readFog 31 = .ok (.aload_n 0, 1) := by decide +kernel
theorem dX7_readFog_32 : decode cX7_readFog 32 = .ok (.getfield 43, 3) := by decide +kernel
theorem dX7_readFog_35 : decode cX7_readFog 35 = .ok (.bipush 13, 2) := by decide +kernel
theorem dX7_readFog_37 : decode cX7_readFog 37 = .ok (.iaload, 1) := by decide +kernel
theorem dX7_readFog_38 : decode cX7_readFog 38 = .ok (.iadd, 1) := by decide +kernel
theorem dX7_readFog_39 : decode cX7_readFog 39 = .ok (.istore_n 1, 1) := by decide +kernel
theorem dX7_readFog_40 : decode cX7_readFog 40 = .ok (.aload_n 0, 1) := by decide +kernel
theorem dX7_readFog_41 : decode cX7_readFog 41 = .ok (.getfield 58, 3) := by decide +kernel
theorem dX7_readFog_44 : decode cX7_readFog 44 = .ok (.iload_n 1, 1) := by decide +kernel
theorem dX7_readFog_45 : decode cX7_readFog 45 = .ok (.aload_n 0, 1) := by decide +kernel
theorem dX7_readFog_46 : decode cX7_readFog 46 = .ok (.iconst 0, 1) := by decide +kernel
theorem dX7_readFog_47 : decode cX7_readFog 47 = .ok (.bipush 99, 2) := by decide +kernel
theorem dX7_readFog_49 : decode cX7_readFog 49 = .ok (.invokevirtual 207, 3) := by decide +kernel
theorem dX7_readFog_52 : decode cX7_readFog 52 = .ok (.iastore, 1) := by decide +kernel
theorem dX7_readFog_53 : decode cX7_readFog 53 = .ok (.aload_n 0, 1) := by decide +kernel
theorem dX7_readFog_54 : decode cX7_readFog 54 = .ok (.getfield 61, 3) := by decide +kernel
theorem dX7_readFog_57 : decode cX7_readFog 57 = .ok (.iload_n 1, 1) := by decide +kernel
theorem dX7_readFog_58 : decode cX7_readFog 58 = .ok (.aload_n 0, 1) := by decide +kernel
theorem dX7_readFog_59 : decode cX7_readFog 59 = .ok (.invokevirtual 210, 3) := by decide +kernel
theorem dX7_readFog_62 : decode cX7_readFog 62 = .ok (.iastore, 1) := by decide +kernel
theorem dX7_readFog_63 : decode cX7_readFog 63 = .ok (.aload_n 0, 1) := by decide +kernel
theorem dX7_readFog_64 : decode cX7_readFog 64 = .ok (.getfield 64, 3) := by decide +kernel
theorem dX7_readFog_67 : decode cX7_readFog 67 = .ok (.iload_n 1, 1) := by decide +kernel
theorem dX7_readFog_68 : decode cX7_readFog 68 = .ok (.aload_n 0, 1) := by decide +kernel
theorem dX7_readFog_69 : decode cX7_readFog 69 = .ok (.invokevirtual 204, 3) := by decide +kernel
theorem dX7_readFog_72 : decode cX7_readFog 72 = .ok (.iastore, 1) := by decide +kernel
theorem dX7_readFog_73 : decode cX7_readFog 73 = .ok (.aload_n 0, 1) := by decide +kernel
theorem dX7_readFog_74 : decode cX7_readFog 74 = .ok (.getfield 176, 3) := by decide +kernel
theorem dX7_readFog_77 : decode cX7_readFog 77 = .ok (.ifCond .ne 23, 3) := by decide +kernel
theorem dX7_readFog_80 : decode cX7_readFog 80 = .ok (.aload_n 0, 1) := by decide +kernel
theorem dX7_readFog_81 : decode cX7_readFog 81 = .ok (.getfield 64, 3) := by decide +kernel
theorem dX7_readFog_84 : decode cX7_readFog 84 = .ok (.iload_n 1, 1) := by decide +kernel
theorem dX7_readFog_85 : decode cX7_readFog 85 = .ok (.iaload, 1) := by decide +kernel
theorem dX7_readFog_86 : decode cX7_readFog 86 = .ok (.aload_n 0, 1) := by decide +kernel
theorem dX7_readFog_87 : decode cX7_readFog 87 = .ok (.getfield 61, 3) := by decide +kernel
theorem dX7_readFog_90 : decode cX7_readFog 90 = .ok (.iload_n 1, 1) := by decide +kernel
theorem dX7_readFog_91 : decode cX7_readFog 91 = .ok (.iaload, 1) := by decide +kernel
theorem dX7_readFog_92 : decode cX7_readFog 92 = .ok (.if_icmp .ne 8, 3) := by decide +kernel
theorem dX7_readFog_95 : decode cX7_readFog 95 = .ok (.aload_n 0, 1) := by decide +kernel
theorem dX7_readFog_96 : decode cX7_readFog 96 = .ok (.iconst 5, 1) := by decide +kernel
theorem dX7_readFog_97 : decode cX7_readFog 97 = .ok (.invokevirtual 194, 3) := by decide +kernel
theorem dX7_readFog_100 : decode cX7_readFog 100 = .ok (.aload_n 0, 1) := by decide +kernel
theorem dX7_readFog_101 : decode cX7_readFog 101 = .ok (.getfield 176, 3) := by decide +kernel
theorem dX7_readFog_104 : decode cX7_readFog 104 = .ok (.ifCond .ne 7, 3) := by decide +kernel
theorem dX7_readFog_107 : decode cX7_readFog 107 = .ok (.aload_n 0, 1) := by decide +kernel
theorem dX7_readFog_108 : decode cX7_readFog 108 = .ok (.invokevirtual 201, 3) := by decide +kernel
theorem dX7_readFog_111 : decode cX7_readFog 111 = .ok (.aload_n 0, 1) := by decide +kernel
theorem dX7_readFog_112 : decode cX7_readFog 112 = .ok (.getfield 43, 3) := by decide +kernel
theorem dX7_readFog_115 : decode cX7_readFog 115 = .ok (.bipush 13, 2) := by decide +kernel
theorem dX7_readFog_117 : decode cX7_readFog 117 = .ok (.dup2, 1) := by decide +kernel
theorem dX7_readFog_118 : decode cX7_readFog 118 = .ok (.iaload, 1) := by decide +kernel
theorem dX7_readFog_119 : decode cX7_readFog 119 = .ok (.iconst 1, 1) := by decide +kernel
theorem dX7_readFog_120 : decode cX7_readFog 120 = .ok (.iadd, 1) := by decide +kernel
theorem dX7_readFog_121 : decode cX7_readFog 121 = .ok (.iastore, 1) := by decide +kernel
theorem dX7_readFog_122 : decode cX7_readFog 122 = .ok (.return_, 1) := by decide +kernel
theorem dX7_readLine_0 : decode cX7_readLine 0 = .ok (.aload_n 0, 1) := by decide +kernel
theorem dX7_readLine_1 : decode cX7_readLine 1 = .ok (.aload_n 0, 1) := by decide +kernel
theorem dX7_readLine_2 : decode cX7_readLine 2 = .ok (.getfield 19, 3) := by decide +kernel
theorem dX7_readLine_5 : decode cX7_readLine 5 = .ok (.invokevirtual 213, 3) := by decide +kernel
theorem dX7_readLine_8 : decode cX7_readLine 8 = .ok (.istore_n 2, 1) := by decide +kernel
theorem dX7_readLine_9 : decode cX7_readLine 9 = .ok (.aload_n 0, 1) := by decide +kernel
theorem dX7_readLine_10 : decode cX7_readLine 10 = .ok (.aload_n 0, 1) := by decide +kernel
theorem dX7_readLine_11 : decode cX7_readLine 11 = .ok (.getfield 33, 3) := by decide +kernel
theorem dX7_readLine_14 : decode cX7_readLine 14 = .ok (.invokevirtual 213, 3) := by decide +kernel
theorem dX7_readLine_17 : decode cX7_readLine 17 = .ok (.istore_n 3, 1) := by decide +kernel
theorem dX7_readLine_18 : decode cX7_readLine 18 = .ok (.aload_n 0, 1) := by decide +kernel
theorem dX7_readLine_19 : decode cX7_readLine 19 = .ok (.ldc 217, 2) := by decide +kernel
theorem dX7_readLine_21 : decode cX7_readLine 21 = .ok (.invokevirtual 190, 3) := by decide +kernel
theorem dX7_readLine_24 : decode cX7_readLine 24 = .ok (.ifCond .eq 8, 3) := by decide +kernel
theorem dX7_readLine_27 : decode cX7_readLine 27 = .ok (.bipush 16, 2) := by decide +kernel
theorem dX7_readLine_29 : decode cX7_readLine 29 = .ok (.goto 16, 3) := by decide +kernel
theorem dX7_readLine_32 : decode cX7_readLine 32 = .ok (.iload_n 3, 1) := by decide +kernel
theorem dX7_readLine_33 : decode cX7_readLine 33 = .ok (.iconst (-1), 1) := by decide +kernel
theorem dX7_readLine_34 : decode cX7_readLine 34 = .ok (.if_icmp .ne 8, 3) := by decide +kernel
theorem dX7_readLine_37 : decode cX7_readLine 37 = .ok (.bipush 32, 2) := by decide +kernel
theorem dX7_readLine_39 : decode cX7_readLine 39 = .ok (.goto 6, 3) := by decide +kernel
theorem dX7_readLine_42 : decode cX7_readLine 42 = .ok (.iconst 1, 1) := by decide +kernel
theorem dX7_readLine_43 : decode cX7_readLine 43 = .ok (.iload_n 3, 1) := by decide +kernel
theorem dX7_readLine_44 : decode cX7_readLine 44 = .ok (.ishl, 1) := by decide +kernel
theorem dX7_readLine_45 : decode cX7_readLine 45 = .ok (.istore 4, 2) := by decide +kernel
theorem dX7_readLine_47 : decode cX7_readLine 47 = .ok (.iload 4, 2) := by decide +kernel
theorem dX7_readLine_49 : decode cX7_readLine 49 = .ok (.bipush 16, 2) := by decide +kernel
theorem dX7_readLine_51 : decode cX7_readLine 51 = .ok (.if_icmp .ne 7, 3) := by decide +kernel
theorem dX7_readLine_54 : decode cX7_readLine 54 = .ok (.iload_n 1, 1) := by decide +kernel
theorem dX7_readLine_55 : decode cX7_readLine 55 = .ok (.ifCond .ne 17, 3) := by decide +kernel
theorem dX7_readLine_58 : decode cX7_readLine 58 = .ok (.iload 4, 2) := by decide +kernel
theorem dX7_readLine_60 : decode cX7_readLine 60 = .ok (.bipush 16, 2) := by decide +kernel
theorem dX7_readLine_62 : decode cX7_readLine 62 = .ok (.if_icmp .ge 15, 3) := by decide +kernel
theorem dX7_readLine_65 : decode cX7_readLine 65 = .ok (.iload_n 1, 1) := by decide +kernel
theorem dX7_readLine_66 : decode cX7_readLine 66 = .ok (.iload 4, 2) := by decide +kernel
theorem dX7_readLine_68 : decode cX7_readLine 68 = .ok (.iand, 1) := by decide +kernel
theorem dX7_readLine_69 : decode cX7_readLine 69 = .ok (.ifCond .eq 8, 3) := by decide +kernel
theorem dX7_readLine_72 : decode cX7_readLine 72 = .ok (.aload_n 0, 1) := by decide +kernel
theorem dX7_readLine_73 : decode cX7_readLine 73 = .ok (.iconst 4, 1) := by decide +kernel
theorem dX7_readLine_74 : decode cX7_readLine 74 = .ok (.invokevirtual 194, 3) := by decide +kernel
theorem dX7_readLine_77 : decode cX7_readLine 77 = .ok (.aload_n 0, 1) := by decide +kernel
theorem dX7_readLine_78 : decode cX7_readLine 78 = .ok (.getfield 176, 3) := by decide +kernel
theorem dX7_readLine_81 : decode cX7_readLine 81 = .ok (.ifCond .ne 11, 3) := by decide +kernel
theorem dX7_readLine_84 : decode cX7_readLine 84 = .ok (.aload_n 0, 1) := by decide +kernel
theorem dX7_readLine_85 : decode cX7_readLine 85 = .ok (.iload_n 2, 1) := by decide +kernel
theorem dX7_readLine_86 : decode cX7_readLine 86 = .ok (.iload_n 3, 1) := by decide +kernel
theorem dX7_readLine_87 : decode cX7_readLine 87 = .ok (.iload 4, 2) := by decide +kernel
theorem dX7_readLine_89 : decode cX7_readLine 89 = .ok (.invokevirtual 219, 3) := by decide +kernel
theorem dX7_readLine_92 : decode cX7_readLine 92 = .ok (.aload_n 0, 1) := by decide +kernel
theorem dX7_readLine_93 : decode cX7_readLine 93 = .ok (.getfield 176, 3) := by decide +kernel
theorem dX7_readLine_96 : decode cX7_readLine 96 = .ok (.ifCond .ne 16, 3) := by decide +kernel
theorem dX7_readLine_99 : decode cX7_readLine 99 = .ok (.aload_n 0, 1) := by decide +kernel
theorem dX7_readLine_100 : decode cX7_readLine 100 = .ok (.getfield 154, 3) := by decide +kernel
theorem dX7_readLine_103 : decode cX7_readLine 103 = .ok (.iconst 3, 1) := by decide +kernel
theorem dX7_readLine_104 : decode cX7_readLine 104 = .ok (.if_icmp .eq 8, 3) := by decide +kernel
theorem dX7_readLine_107 : decode cX7_readLine 107 = .ok (.aload_n 0, 1) := by decide +kernel
theorem dX7_readLine_108 : decode cX7_readLine 108 = .ok (.iconst 1, 1) := by decide +kernel
theorem dX7_readLine_109 : decode cX7_readLine 109 = .ok (.invokevirtual 194, 3) := by decide +kernel
theorem dX7_readLine_112 : decode cX7_readLine 112 = .ok (.aload_n 0, 1) := by decide +kernel
theorem dX7_readLine_113 : decode cX7_readLine 113 = .ok (.getfield 176, 3) := by decide +kernel
theorem dX7_readLine_116 : decode cX7_readLine 116 = .ok (.ifCond .ne 7, 3) := by decide +kernel
theorem dX7_readLine_119 : decode cX7_readLine 119 = .ok (.aload_n 0, 1) := by decide +kernel
theorem dX7_readLine_120 : decode cX7_readLine 120 = .ok (.invokevirtual 201, 3) := by decide +kernel
theorem dX7_readLine_123 : decode cX7_readLine 123 = .ok (.iload_n 1, 1) := by decide +kernel
theorem dX7_readLine_124 : decode cX7_readLine 124 = .ok (.iload 4, 2) := by decide +kernel
theorem dX7_readLine_126 : decode cX7_readLine 126 = .ok (.ior, 1) := by decide +kernel
theorem dX7_readLine_127 : decode cX7_readLine 127 = .ok (.ireturn, 1) := by decide +kernel
theorem dX7_readBy_0 : decode cX7_readBy 0 = .ok (.iload_n 1, 1) := by decide +kernel
theorem dX7_readBy_1 : decode cX7_readBy 1 = .ok (.iconst (-1), 1) := by decide +kernel
theorem dX7_readBy_2 : decode cX7_readBy 2 = .ok (.if_icmp .eq 11, 3) := by decide +kernel
theorem dX7_readBy_5 : decode cX7_readBy 5 = .ok (.aload_n 0, 1) := by decide +kernel
theorem dX7_readBy_6 : decode cX7_readBy 6 = .ok (.iload_n 1, 1) := by decide +kernel
theorem dX7_readBy_7 : decode cX7_readBy 7 = .ok (.invokevirtual 223, 3) := by decide +kernel
theorem dX7_readBy_10 : decode cX7_readBy 10 = .ok (.goto 108, 3) := by decide +kernel
theorem dX7_readBy_13 : decode cX7_readBy 13 = .ok (.iload_n 2, 1) := by decide +kernel
theorem dX7_readBy_14 : decode cX7_readBy 14 = .ok (.iconst (-1), 1) := by decide +kernel
theorem dX7_readBy_15 : decode cX7_readBy 15 = .ok (.if_icmp .eq 35, 3) := by decide +kernel
theorem dX7_readBy_18 : decode cX7_readBy 18 = .ok (.aload_n 0, 1) := by decide +kernel
theorem dX7_readBy_19 : decode cX7_readBy 19 = .ok (.invokevirtual 201, 3) := by decide +kernel
theorem dX7_readBy_22 : decode cX7_readBy 22 = .ok (.aload_n 0, 1) := by decide +kernel
theorem dX7_readBy_23 : decode cX7_readBy 23 = .ok (.getfield 43, 3) := by decide +kernel
theorem dX7_readBy_26 : decode cX7_readBy 26 = .ok (.bipush 9, 2) := by decide +kernel
theorem dX7_readBy_28 : decode cX7_readBy 28 = .ok (.iload_n 2, 1) := by decide +kernel
theorem dX7_readBy_29 : decode cX7_readBy 29 = .ok (.iadd, 1) := by decide +kernel
theorem dX7_readBy_30 : decode cX7_readBy 30 = .ok (.aload_n 0, 1) := by decide +kernel
theorem dX7_readBy_31 : decode cX7_readBy 31 = .ok (.aload_n 0, 1) := by decide +kernel
theorem dX7_readBy_32 : decode cX7_readBy 32 = .ok (.getfield 36, 3) := by decide +kernel
theorem dX7_readBy_35 : decode cX7_readBy 35 = .ok (.iload_n 2, 1) := by decide +kernel
theorem dX7_readBy_36 : decode cX7_readBy 36 = .ok (.iaload, 1) := by decide +kernel
theorem dX7_readBy_37 : decode cX7_readBy 37 = .ok (.aload_n 0, 1) := by decide +kernel
theorem dX7_readBy_38 : decode cX7_readBy 38 = .ok (.getfield 40, 3) := by decide +kernel
theorem dX7_readBy_41 : decode cX7_readBy 41 = .ok (.iload_n 2, 1) := by decide +kernel
theorem dX7_readBy_42 : decode cX7_readBy 42 = .ok (.iaload, 1) := by decide +kernel
theorem dX7_readBy_43 : decode cX7_readBy 43 = .ok (.invokevirtual 207, 3) := by decide +kernel
theorem dX7_readBy_46 : decode cX7_readBy 46 = .ok (.iastore, 1) := by decide +kernel
theorem dX7_readBy_47 : decode cX7_readBy 47 = .ok (.goto 71, 3) := by decide +kernel
theorem dX7_readBy_50 : decode cX7_readBy 50 = .ok (.iload_n 3, 1) := by decide +kernel
theorem dX7_readBy_51 : decode cX7_readBy 51 = .ok (.bipush 16, 2) := by decide +kernel
theorem dX7_readBy_53 : decode cX7_readBy 53 = .ok (.if_icmp .ne 24, 3) := by decide +kernel
theorem dX7_readBy_56 : decode cX7_readBy 56 = .ok (.aload_n 0, 1) := by decide +kernel
theorem dX7_readBy_57 : decode cX7_readBy 57 = .ok (.invokevirtual 201, 3) := by decide +kernel
theorem dX7_readBy_60 : decode cX7_readBy 60 = .ok (.aload_n 0, 1) := by decide +kernel
theorem dX7_readBy_61 : decode cX7_readBy 61 = .ok (.getfield 43, 3) := by decide +kernel
theorem dX7_readBy_64 : decode cX7_readBy 64 = .ok (.bipush 7, 2) := by decide +kernel
theorem dX7_readBy_66 : decode cX7_readBy 66 = .ok (.aload_n 0, 1) := by decide +kernel
theorem dX7_readBy_67 : decode cX7_readBy 67 = .ok (.iconst 1, 1) := by decide +kernel
theorem dX7_readBy_68 : decode cX7_readBy 68 = .ok (.bipush 30, 2) := by decide +kernel
theorem dX7_readBy_70 : decode cX7_readBy 70 = .ok (.invokevirtual 207, 3) := by decide +kernel
theorem dX7_readBy_73 : decode cX7_readBy 73 = .ok (.iastore, 1) := by decide +kernel
theorem dX7_readBy_74 : decode cX7_readBy 74 = .ok (.goto 44, 3) := by decide +kernel
theorem dX7_readBy_77 : decode cX7_readBy 77 = .ok (.aload_n 0, 1) := by decide +kernel
theorem dX7_readBy_78 : decode cX7_readBy 78 = .ok (.ldc 226, 2) := by decide +kernel
theorem dX7_readBy_80 : decode cX7_readBy 80 = .ok (.invokevirtual 190, 3) := by decide +kernel
theorem dX7_readBy_83 : decode cX7_readBy 83 = .ok (.ifCond .eq 10, 3) := by decide +kernel
theorem dX7_readBy_86 : decode cX7_readBy 86 = .ok (.aload_n 0, 1) := by decide +kernel
theorem dX7_readBy_87 : decode cX7_readBy 87 = .ok (.invokevirtual 227, 3) := by decide +kernel
theorem dX7_readBy_90 : decode cX7_readBy 90 = .ok (.goto 28, 3) := by decide +kernel
theorem dX7_readBy_93 : decode cX7_readBy 93 = .ok (.aload_n 0, 1) := by decide +kernel
theorem dX7_readBy_94 : decode cX7_readBy 94 = .ok (.ldc 230, 2) := by decide +kernel
theorem dX7_readBy_96 : decode cX7_readBy 96 = .ok (.invokevirtual 190, 3) := by decide +kernel
theorem dX7_readBy_99 : decode cX7_readBy 99 = .ok (.ifCond .ne 8, 3) := by decide +kernel
theorem dX7_readBy_102 : decode cX7_readBy 102 = .ok (.aload_n 0, 1) := by decide +kernel
theorem dX7_readBy_103 : decode cX7_readBy 103 = .ok (.iconst 1, 1) := by decide +kernel
theorem dX7_readBy_104 : decode cX7_readBy 104 = .ok (.invokevirtual 194, 3) := by decide +kernel
theorem dX7_readBy_107 : decode cX7_readBy 107 = .ok (.aload_n 0, 1) := by decide +kernel
theorem dX7_readBy_108 : decode cX7_readBy 108 = .ok (.getfield 176, 3) := by decide +kernel
theorem dX7_readBy_111 : decode cX7_readBy 111 = .ok (.ifCond .ne 7, 3) := by decide +kernel
theorem dX7_readBy_114 : decode cX7_readBy 114 = .ok (.aload_n 0, 1) := by decide +kernel
theorem dX7_readBy_115 : decode cX7_readBy 115 = .ok (.invokevirtual 232, 3) := by decide +kernel
theorem dX7_readBy_118 : decode cX7_readBy 118 = .ok (.return_, 1) := by decide +kernel
theorem dX7_valley_0 : decode cX7_valley 0 = .ok (.aload_n 0, 1) := by decide +kernel
theorem dX7_valley_1 : decode cX7_valley 1 = .ok (.iconst 0, 1) := by decide +kernel
theorem dX7_valley_2 : decode cX7_valley 2 = .ok (.putfield 131, 3) := by decide +kernel
theorem dX7_valley_5 : decode cX7_valley 5 = .ok (.iload_n 1, 1) := by decide +kernel
theorem dX7_valley_6 : decode cX7_valley 6 = .ok (.ifCond .lt 11, 3) := by decide +kernel
theorem dX7_valley_9 : decode cX7_valley 9 = .ok (.iload_n 1, 1) := by decide +kernel
theorem dX7_valley_10 : decode cX7_valley 10 = .ok (.aload_n 0, 1) := by decide +kernel
theorem dX7_valley_11 : decode cX7_valley 11 = .ok (.getfield 138, 3) := by decide +kernel
theorem dX7_valley_14 : decode cX7_valley 14 = .ok (.if_icmp .le 9, 3) := by decide +kernel
theorem dX7_valley_17 : decode cX7_valley 17 = .ok (.aload_n 0, 1) := by decide +kernel
theorem dX7_valley_18 : decode cX7_valley 18 = .ok (.iconst 1, 1) := by decide +kernel
theorem dX7_valley_19 : decode cX7_valley 19 = .ok (.invokevirtual 235, 3) := by decide +kernel
theorem dX7_valley_22 : decode cX7_valley 22 = .ok (.ireturn, 1) := by decide +kernel
theorem dX7_valley_23 : decode cX7_valley 23 = .ok (.aload_n 0, 1) := by decide +kernel
theorem dX7_valley_24 : decode cX7_valley 24 = .ok (.iconst 0, 1) := by decide +kernel
theorem dX7_valley_25 : decode cX7_valley 25 = .ok (.putfield 138, 3) := by decide +kernel
theorem dX7_valley_28 : decode cX7_valley 28 = .ok (.aload_n 0, 1) := by decide +kernel
theorem dX7_valley_29 : decode cX7_valley 29 = .ok (.iload_n 1, 1) := by decide +kernel
theorem dX7_valley_30 : decode cX7_valley 30 = .ok (.putfield 141, 3) := by decide +kernel
theorem dX7_valley_33 : decode cX7_valley 33 = .ok (.aload_n 0, 1) := by decide +kernel
theorem dX7_valley_34 : decode cX7_valley 34 = .ok (.iconst 0, 1) := by decide +kernel
theorem dX7_valley_35 : decode cX7_valley 35 = .ok (.putfield 144, 3) := by decide +kernel
theorem dX7_valley_38 : decode cX7_valley 38 = .ok (.aload_n 0, 1) := by decide +kernel
theorem dX7_valley_39 : decode cX7_valley 39 = .ok (.iconst 0, 1) := by decide +kernel
theorem dX7_valley_40 : decode cX7_valley 40 = .ok (.putfield 176, 3) := by decide +kernel
theorem dX7_valley_43 : decode cX7_valley 43 = .ok (.aload_n 0, 1) := by decide +kernel
theorem dX7_valley_44 : decode cX7_valley 44 = .ok (.iconst (-1), 1) := by decide +kernel
theorem dX7_valley_45 : decode cX7_valley 45 = .ok (.putfield 73, 3) := by decide +kernel
theorem dX7_valley_48 : decode cX7_valley 48 = .ok (.iconst 0, 1) := by decide +kernel
theorem dX7_valley_49 : decode cX7_valley 49 = .ok (.istore_n 2, 1) := by decide +kernel
theorem dX7_valley_50 : decode cX7_valley 50 = .ok (.iload_n 2, 1) := by decide +kernel
theorem dX7_valley_51 : decode cX7_valley 51 = .ok (.bipush 7, 2) := by decide +kernel
theorem dX7_valley_53 : decode cX7_valley 53 = .ok (.if_icmp .ge 47, 3) := by decide +kernel
theorem dX7_valley_56 : decode cX7_valley 56 = .ok (.aload_n 0, 1) := by decide +kernel
theorem dX7_valley_57 : decode cX7_valley 57 = .ok (.getfield 43, 3) := by decide +kernel
theorem dX7_valley_60 : decode cX7_valley 60 = .ok (.bipush 7, 2) := by decide +kernel
theorem dX7_valley_62 : decode cX7_valley 62 = .ok (.iload_n 2, 1) := by decide +kernel
theorem dX7_valley_63 : decode cX7_valley 63 = .ok (.iadd, 1) := by decide +kernel
theorem dX7_valley_64 : decode cX7_valley 64 = .ok (.iload_n 2, 1) := by decide +kernel
theorem dX7_valley_65 : decode cX7_valley 65 = .ok (.ifCond .ne 8, 3) := by decide +kernel
theorem dX7_valley_68 : decode cX7_valley 68 = .ok (.bipush 12, 2) := by decide +kernel
theorem dX7_valley_70 : decode cX7_valley 70 = .ok (.goto 23, 3) := by decide +kernel
theorem dX7_valley_73 : decode cX7_valley 73 = .ok (.iload_n 2, 1) := by decide +kernel
theorem dX7_valley_74 : decode cX7_valley 74 = .ok (.iconst 2, 1) := by decide +kernel
theorem dX7_valley_75 : decode cX7_valley 75 = .ok (.if_icmp .ne 7, 3) := by decide +kernel
theorem dX7_valley_78 : decode cX7_valley 78 = .ok (.iconst 1, 1) := by decide +kernel
theorem dX7_valley_79 : decode cX7_valley 79 = .ok (.goto 14, 3) := by decide +kernel
theorem dX7_valley_82 : decode cX7_valley 82 = .ok (.iload_n 2, 1) := by decide +kernel
theorem dX7_valley_83 : decode cX7_valley 83 = .ok (.iconst 5, 1) := by decide +kernel
theorem dX7_valley_84 : decode cX7_valley 84 = .ok (.if_icmp .ne 8, 3) := by decide +kernel
theorem dX7_valley_87 : decode cX7_valley 87 = .ok (.bipush 40, 2) := by decide +kernel
theorem dX7_valley_89 : decode cX7_valley 89 = .ok (.goto 4, 3) := by decide +kernel
theorem dX7_valley_92 : decode cX7_valley 92 = .ok (.iconst 0, 1) := by decide +kernel
theorem dX7_valley_93 : decode cX7_valley 93 = .ok (.iastore, 1) := by decide +kernel
theorem dX7_valley_94 : decode cX7_valley 94 = .ok (.iinc 2 1, 3) := by decide +kernel
theorem dX7_valley_97 : decode cX7_valley 97 = .ok (.goto (-47), 3) := by decide +kernel
theorem dX7_valley_100 : decode cX7_valley 100 = .ok (.aload_n 0, 1) := by decide +kernel
theorem dX7_valley_101 : decode cX7_valley 101 = .ok (.invokevirtual 201, 3) := by decide +kernel
theorem dX7_valley_104 : decode cX7_valley 104 = .ok (.iconst 0, 1) := by decide +kernel
theorem dX7_valley_105 : decode cX7_valley 105 = .ok (.istore_n 2, 1) := by decide +kernel
theorem dX7_valley_106 : decode cX7_valley 106 = .ok (.aload_n 0, 1) := by decide +kernel
theorem dX7_valley_107 : decode cX7_valley 107 = .ok (.getfield 176, 3) := by decide +kernel
theorem dX7_valley_110 : decode cX7_valley 110 = .ok (.ifCond .ne 19, 3) := by decide +kernel
theorem dX7_valley_113 : decode cX7_valley 113 = .ok (.aload_n 0, 1) := by decide +kernel
theorem dX7_valley_114 : decode cX7_valley 114 = .ok (.getfield 154, 3) := by decide +kernel
theorem dX7_valley_117 : decode cX7_valley 117 = .ok (.ifCond .eq 12, 3) := by decide +kernel
theorem dX7_valley_120 : decode cX7_valley 120 = .ok (.aload_n 0, 1) := by decide +kernel
theorem dX7_valley_121 : decode cX7_valley 121 = .ok (.iload_n 2, 1) := by decide +kernel
theorem dX7_valley_122 : decode cX7_valley 122 = .ok (.invokevirtual 238, 3) := by decide +kernel
theorem dX7_valley_125 : decode cX7_valley 125 = .ok (.istore_n 2, 1) := by decide +kernel
theorem dX7_valley_126 : decode cX7_valley 126 = .ok (.goto (-20), 3) := by decide +kernel
theorem dX7_valley_129 : decode cX7_valley 129 = .ok (.aload_n 0, 1) := by decide +kernel
theorem dX7_valley_130 : decode cX7_valley 130 = .ok (.getfield 176, 3) := by decide +kernel
theorem dX7_valley_133 : decode cX7_valley 133 = .ok (.ifCond .eq 26, 3) := by decide +kernel
theorem dX7_valley_136 : decode cX7_valley 136 = .ok (.aload_n 0, 1) := by decide +kernel
theorem dX7_valley_137 : decode cX7_valley 137 = .ok (.aload_n 0, 1) := by decide +kernel
theorem dX7_valley_138 : decode cX7_valley 138 = .ok (.getfield 179, 3) := by decide +kernel
theorem dX7_valley_141 : decode cX7_valley 141 = .ok (.putfield 73, 3) := by decide +kernel
theorem dX7_valley_144 : decode cX7_valley 144 = .ok (.aload_n 0, 1) := by decide +kernel
theorem dX7_valley_145 : decode cX7_valley 145 = .ok (.getfield 67, 3) := by decide +kernel
theorem dX7_valley_148 : decode cX7_valley 148 = .ok (.iconst 0, 1) := by decide +kernel
theorem dX7_valley_149 : decode cX7_valley 149 = .ok (.dup2, 1) := by decide +kernel
theorem dX7_valley_150 : decode cX7_valley 150 = .ok (.iaload, 1) := by decide +kernel
theorem dX7_valley_151 : decode cX7_valley 151 = .ok (.iconst 1, 1) := by decide +kernel
theorem dX7_valley_152 : decode cX7_valley 152 = .ok (.iadd, 1) := by decide +kernel
theorem dX7_valley_153 : decode cX7_valley 153 = .ok (.iastore, 1) := by decide +kernel
theorem dX7_valley_154 : decode cX7_valley 154 = .ok (.aload_n 0, 1) := by decide +kernel
theorem dX7_valley_155 : decode cX7_valley 155 = .ok (.getfield 176, 3) := by decide +kernel
theorem dX7_valley_158 : decode cX7_valley 158 = .ok (.ireturn, 1) := by decide +kernel
theorem dX7_valley_159 : decode cX7_valley 159 = .ok (.aload_n 0, 1) := by decide +kernel
theorem dX7_valley_160 : decode cX7_valley 160 = .ok (.invokevirtual 241, 3) := by decide +kernel
theorem dX7_valley_163 : decode cX7_valley 163 = .ok (.iconst 0, 1) := by decide +kernel
theorem dX7_valley_164 : decode cX7_valley 164 = .ok (.ireturn, 1) := by decide +kernel
theorem dX7_takeHalf_0 : decode cX7_takeHalf 0 = .ok (.iconst 0, 1) := by decide +kernel
theorem dX7_takeHalf_1 : decode cX7_takeHalf 1 = .ok (.istore_n 1, 1) := by decide +kernel
theorem dX7_takeHalf_2 : decode cX7_takeHalf 2 = .ok (.iload_n 1, 1) := by decide +kernel
theorem dX7_takeHalf_3 : decode cX7_takeHalf 3 = .ok (.aload_n 0, 1) := by decide +kernel
theorem dX7_takeHalf_4 : decode cX7_takeHalf 4 = .ok (.arraylength, 1) := by decide +kernel
theorem dX7_takeHalf_5 : decode cX7_takeHalf 5 = .ok (.iconst 2, 1) := by decide +kernel
theorem dX7_takeHalf_6 : decode cX7_takeHalf 6 = .ok (.idiv, 1) := by decide +kernel
theorem dX7_takeHalf_7 : decode cX7_takeHalf 7 = .ok (.if_icmp .ge 20, 3) := by decide +kernel
theorem dX7_takeHalf_10 : decode cX7_takeHalf 10 = .ok (.aload_n 0, 1) := by decide +kernel
theorem dX7_takeHalf_11 : decode cX7_takeHalf 11 = .ok (.iload_n 1, 1) := by decide +kernel
theorem dX7_takeHalf_12 : decode cX7_takeHalf 12 = .ok (.aload_n 0, 1) := by decide +kernel
theorem dX7_takeHalf_13 : decode cX7_takeHalf 13 = .ok (.aload_n 0, 1) := by decide +kernel
theorem dX7_takeHalf_14 : decode cX7_takeHalf 14 = .ok (.arraylength, 1) := by decide +kernel
theorem dX7_takeHalf_15 : decode cX7_takeHalf 15 = .ok (.iconst 2, 1) := by decide +kernel
theorem dX7_takeHalf_16 : decode cX7_takeHalf 16 = .ok (.idiv, 1) := by decide +kernel
theorem dX7_takeHalf_17 : decode cX7_takeHalf 17 = .ok (.iload_n 1, 1) := by decide +kernel
theorem dX7_takeHalf_18 : decode cX7_takeHalf 18 = .ok (.iadd, 1) := by decide +kernel
theorem dX7_takeHalf_19 : decode cX7_takeHalf 19 = .ok (.iaload, 1) := by decide +kernel
theorem dX7_takeHalf_20 : decode cX7_takeHalf 20 = .ok (.iastore, 1) := by decide +kernel
theorem dX7_takeHalf_21 : decode cX7_takeHalf 21 = .ok (.iinc 1 1, 3) := by decide +kernel
theorem dX7_takeHalf_24 : decode cX7_takeHalf 24 = .ok (.goto (-22), 3) := by decide +kernel
theorem dX7_takeHalf_27 : decode cX7_takeHalf 27 = .ok (.return_, 1) := by decide +kernel
theorem dX7_take_0 : decode cX7_take 0 = .ok (.aload_n 0, 1) := by decide +kernel
theorem dX7_take_1 : decode cX7_take 1 = .ok (.getfield 43, 3) := by decide +kernel
theorem dX7_take_4 : decode cX7_take 4 = .ok (.invokestatic 244, 3) := by decide +kernel
theorem dX7_take_7 : decode cX7_take 7 = .ok (.aload_n 0, 1) := by decide +kernel
theorem dX7_take_8 : decode cX7_take 8 = .ok (.getfield 46, 3) := by decide +kernel
theorem dX7_take_11 : decode cX7_take 11 = .ok (.invokestatic 244, 3) := by decide +kernel
theorem dX7_take_14 : decode cX7_take 14 = .ok (.aload_n 0, 1) := by decide +kernel
theorem dX7_take_15 : decode cX7_take 15 = .ok (.getfield 49, 3) := by decide +kernel
theorem dX7_take_18 : decode cX7_take 18 = .ok (.invokestatic 244, 3) := by decide +kernel
theorem dX7_take_21 : decode cX7_take 21 = .ok (.aload_n 0, 1) := by decide +kernel
theorem dX7_take_22 : decode cX7_take 22 = .ok (.getfield 52, 3) := by decide +kernel
theorem dX7_take_25 : decode cX7_take 25 = .ok (.invokestatic 244, 3) := by decide +kernel
theorem dX7_take_28 : decode cX7_take 28 = .ok (.aload_n 0, 1) := by decide +kernel
theorem dX7_take_29 : decode cX7_take 29 = .ok (.getfield 55, 3) := by decide +kernel
theorem dX7_take_32 : decode cX7_take 32 = .ok (.invokestatic 244, 3) := by decide +kernel
theorem dX7_take_35 : decode cX7_take 35 = .ok (.aload_n 0, 1) := by decide +kernel
theorem dX7_take_36 : decode cX7_take 36 = .ok (.getfield 58, 3) := by decide +kernel
theorem dX7_take_39 : decode cX7_take 39 = .ok (.invokestatic 244, 3) := by decide +kernel
theorem dX7_take_42 : decode cX7_take 42 = .ok (.aload_n 0, 1) := by decide +kernel
theorem dX7_take_43 : decode cX7_take 43 = .ok (.getfield 61, 3) := by decide +kernel
theorem dX7_take_46 : decode cX7_take 46 = .ok (.invokestatic 244, 3) := by decide +kernel
theorem dX7_take_49 : decode cX7_take 49 = .ok (.aload_n 0, 1) := by decide +kernel
theorem dX7_take_50 : decode cX7_take 50 = .ok (.getfield 64, 3) := by decide +kernel
theorem dX7_take_53 : decode cX7_take 53 = .ok (.invokestatic 244, 3) := by decide +kernel
theorem dX7_take_56 : decode cX7_take 56 = .ok (.aload_n 0, 1) := by decide +kernel
theorem dX7_take_57 : decode cX7_take 57 = .ok (.iconst 0, 1) := by decide +kernel
theorem dX7_take_58 : decode cX7_take 58 = .ok (.putfield 248, 3) := by decide +kernel
theorem dX7_take_61 : decode cX7_take 61 = .ok (.aload_n 0, 1) := by decide +kernel
theorem dX7_take_62 : decode cX7_take 62 = .ok (.aload_n 0, 1) := by decide +kernel
theorem dX7_take_63 : decode cX7_take 63 = .ok (.getfield 77, 3) := by decide +kernel
theorem dX7_take_66 : decode cX7_take 66 = .ok (.invokevirtual 251, 3) := by decide +kernel
theorem dX7_take_69 : decode cX7_take 69 = .ok (.iconst 0, 1) := by decide +kernel
theorem dX7_take_70 : decode cX7_take 70 = .ok (.istore_n 1, 1) := by decide +kernel
theorem dX7_take_71 : decode cX7_take 71 = .ok (.iload_n 1, 1) := by decide +kernel
theorem dX7_take_72 : decode cX7_take 72 = .ok (.bipush 18, 2) := by decide +kernel
theorem dX7_take_74 : decode cX7_take 74 = .ok (.if_icmp .ge 21, 3) := by decide +kernel
theorem dX7_take_77 : decode cX7_take 77 = .ok (.aload_n 0, 1) := by decide +kernel
theorem dX7_take_78 : decode cX7_take 78 = .ok (.getfield 95, 3) := by decide +kernel
theorem dX7_take_81 : decode cX7_take 81 = .ok (.iload_n 1, 1) := by decide +kernel
theorem dX7_take_82 : decode cX7_take 82 = .ok (.aload_n 0, 1) := by decide +kernel
theorem dX7_take_83 : decode cX7_take 83 = .ok (.getfield 77, 3) := by decide +kernel
theorem dX7_take_86 : decode cX7_take 86 = .ok (.iload_n 1, 1) := by decide +kernel
theorem dX7_take_87 : decode cX7_take 87 = .ok (.iaload, 1) := by decide +kernel
theorem dX7_take_88 : decode cX7_take 88 = .ok (.iastore, 1) := by decide +kernel
theorem dX7_take_89 : decode cX7_take 89 = .ok (.iinc 1 1, 3) := by decide +kernel
theorem dX7_take_92 : decode cX7_take 92 = .ok (.goto (-21), 3) := by decide +kernel
theorem dX7_take_95 : decode cX7_take 95 = .ok (.aload_n 0, 1) := by decide +kernel
theorem dX7_take_96 : decode cX7_take 96 = .ok (.iconst 0, 1) := by decide +kernel
theorem dX7_take_97 : decode cX7_take 97 = .ok (.putfield 254, 3) := by decide +kernel
theorem dX7_take_100 : decode cX7_take 100 = .ok (.return_, 1) := by decide +kernel
theorem dX7_fault_0 : decode cX7_fault 0 = .ok (.aload_n 0, 1) := by decide +kernel
theorem dX7_fault_1 : decode cX7_fault 1 = .ok (.iconst 0, 1) := by decide +kernel
theorem dX7_fault_2 : decode cX7_fault 2 = .ok (.putfield 131, 3) := by decide +kernel
theorem dX7_fault_5 : decode cX7_fault 5 = .ok (.aload_n 0, 1) := by decide +kernel
theorem dX7_fault_6 : decode cX7_fault 6 = .ok (.getfield 73, 3) := by decide +kernel
theorem dX7_fault_9 : decode cX7_fault 9 = .ok (.ireturn, 1) := by decide +kernel
theorem dX7_anew_0 : decode cX7_anew 0 = .ok (.iconst 0, 1) := by decide +kernel
theorem dX7_anew_1 : decode cX7_anew 1 = .ok (.istore_n 2, 1) := by decide +kernel
theorem dX7_anew_2 : decode cX7_anew 2 = .ok (.iload_n 2, 1) := by decide +kernel
theorem dX7_anew_3 : decode cX7_anew 3 = .ok (.bipush 18, 2) := by decide +kernel
theorem dX7_anew_5 : decode cX7_anew 5 = .ok (.if_icmp .ge 34, 3) := by decide +kernel
theorem dX7_anew_8 : decode cX7_anew 8 = .ok (.aload_n 1, 1) := by decide +kernel
theorem dX7_anew_9 : decode cX7_anew 9 = .ok (.iload_n 2, 1) := by decide +kernel
theorem dX7_anew_10 : decode cX7_anew 10 = .ok (.iload_n 2, 1) := by decide +kernel
theorem dX7_anew_11 : decode cX7_anew 11 = .ok (.iconst 3, 1) := by decide +kernel
theorem dX7_anew_12 : decode cX7_anew 12 = .ok (.aload_n 0, 1) := by decide +kernel
theorem dX7_anew_13 : decode cX7_anew 13 = .ok (.getfield 43, 3) := by decide +kernel
theorem dX7_anew_16 : decode cX7_anew 16 = .ok (.iconst 1, 1) := by decide +kernel
theorem dX7_anew_17 : decode cX7_anew 17 = .ok (.iaload, 1) := by decide +kernel
theorem dX7_anew_18 : decode cX7_anew 18 = .ok (.imul, 1) := by decide +kernel
theorem dX7_anew_19 : decode cX7_anew 19 = .ok (.if_icmp .ge 12, 3) := by decide +kernel
theorem dX7_anew_22 : decode cX7_anew 22 = .ok (.aload_n 0, 1) := by decide +kernel
theorem dX7_anew_23 : decode cX7_anew 23 = .ok (.getfield 52, 3) := by decide +kernel
theorem dX7_anew_26 : decode cX7_anew 26 = .ok (.iload_n 2, 1) := by decide +kernel
theorem dX7_anew_27 : decode cX7_anew 27 = .ok (.iaload, 1) := by decide +kernel
theorem dX7_anew_28 : decode cX7_anew 28 = .ok (.goto 4, 3) := by decide +kernel
theorem dX7_anew_31 : decode cX7_anew 31 = .ok (.iconst 0, 1) := by decide +kernel
theorem dX7_anew_32 : decode cX7_anew 32 = .ok (.iastore, 1) := by decide +kernel
theorem dX7_anew_33 : decode cX7_anew 33 = .ok (.iinc 2 1, 3) := by decide +kernel
theorem dX7_anew_36 : decode cX7_anew 36 = .ok (.goto (-34), 3) := by decide +kernel
theorem dX7_anew_39 : decode cX7_anew 39 = .ok (.bipush 18, 2) := by decide +kernel
theorem dX7_anew_41 : decode cX7_anew 41 = .ok (.istore_n 2, 1) := by decide +kernel
theorem dX7_anew_42 : decode cX7_anew 42 = .ok (.iload_n 2, 1) := by decide +kernel
theorem dX7_anew_43 : decode cX7_anew 43 = .ok (.bipush 30, 2) := by decide +kernel
theorem dX7_anew_45 : decode cX7_anew 45 = .ok (.if_icmp .ge 13, 3) := by decide +kernel
theorem dX7_anew_48 : decode cX7_anew 48 = .ok (.aload_n 1, 1) := by decide +kernel
theorem dX7_anew_49 : decode cX7_anew 49 = .ok (.iload_n 2, 1) := by decide +kernel
theorem dX7_anew_50 : decode cX7_anew 50 = .ok (.iconst (-1), 1) := by decide +kernel
theorem dX7_anew_51 : decode cX7_anew 51 = .ok (.iastore, 1) := by decide +kernel
theorem dX7_anew_52 : decode cX7_anew 52 = .ok (.iinc 2 1, 3) := by decide +kernel
theorem dX7_anew_55 : decode cX7_anew 55 = .ok (.goto (-13), 3) := by decide +kernel
theorem dX7_anew_58 : decode cX7_anew 58 = .ok (.return_, 1) := by decide +kernel
theorem dX7_be_0 : decode cX7_be 0 = .ok (.iconst 0, 1) := by decide +kernel
theorem dX7_be_1 : decode cX7_be 1 = .ok (.istore_n 2, 1) := by decide +kernel
theorem dX7_be_2 : decode cX7_be 2 = .ok (.iload_n 2, 1) := by decide +kernel
theorem dX7_be_3 : decode cX7_be 3 = .ok (.aload_n 0, 1) := by decide +kernel
theorem dX7_be_4 : decode cX7_be 4 = .ok (.arraylength, 1) := by decide +kernel
theorem dX7_be_5 : decode cX7_be 5 = .ok (.if_icmp .ge 15, 3) := by decide +kernel
theorem dX7_be_8 : decode cX7_be 8 = .ok (.aload_n 0, 1) := by decide +kernel
theorem dX7_be_9 : decode cX7_be 9 = .ok (.iload_n 2, 1) := by decide +kernel
theorem dX7_be_10 : decode cX7_be 10 = .ok (.aload_n 1, 1) := by decide +kernel
theorem dX7_be_11 : decode cX7_be 11 = .ok (.iload_n 2, 1) := by decide +kernel
theorem dX7_be_12 : decode cX7_be 12 = .ok (.iaload, 1) := by decide +kernel
theorem dX7_be_13 : decode cX7_be 13 = .ok (.iastore, 1) := by decide +kernel
theorem dX7_be_14 : decode cX7_be 14 = .ok (.iinc 2 1, 3) := by decide +kernel
theorem dX7_be_17 : decode cX7_be 17 = .ok (.goto (-15), 3) := by decide +kernel
theorem dX7_be_20 : decode cX7_be 20 = .ok (.return_, 1) := by decide +kernel
theorem dX7_isOut_0 : decode cX7_isOut 0 = .ok (.aload_n 0, 1) := by decide +kernel
theorem dX7_isOut_1 : decode cX7_isOut 1 = .ok (.bipush 18, 2) := by decide +kernel
theorem dX7_isOut_3 : decode cX7_isOut 3 = .ok (.iload_n 1, 1) := by decide +kernel
theorem dX7_isOut_4 : decode cX7_isOut 4 = .ok (.iadd, 1) := by decide +kernel
theorem dX7_isOut_5 : decode cX7_isOut 5 = .ok (.iaload, 1) := by decide +kernel
theorem dX7_isOut_6 : decode cX7_isOut 6 = .ok (.iconst (-1), 1) := by decide +kernel
theorem dX7_isOut_7 : decode cX7_isOut 7 = .ok (.if_icmp .eq 7, 3) := by decide +kernel
theorem dX7_isOut_10 : decode cX7_isOut 10 = .ok (.iconst 1, 1) := by decide +kernel
theorem dX7_isOut_11 : decode cX7_isOut 11 = .ok (.goto 4, 3) := by decide +kernel
theorem dX7_isOut_14 : decode cX7_isOut 14 = .ok (.iconst 0, 1) := by decide +kernel
theorem dX7_isOut_15 : decode cX7_isOut 15 = .ok (.ireturn, 1) := by decide +kernel
theorem dX7_farOf_0 : decode cX7_farOf 0 = .ok (.iconst 0, 1) := by decide +kernel
theorem dX7_farOf_1 : decode cX7_farOf 1 = .ok (.istore_n 3, 1) := by decide +kernel
theorem dX7_farOf_2 : decode cX7_farOf 2 = .ok (.iconst 0, 1) := by decide +kernel
theorem dX7_farOf_3 : decode cX7_farOf 3 = .ok (.istore 4, 2) := by decide +kernel
theorem dX7_farOf_5 : decode cX7_farOf 5 = .ok (.iload 4, 2) := by decide +kernel
theorem dX7_farOf_7 : decode cX7_farOf 7 = .ok (.iconst 3, 1) := by decide +kernel
theorem dX7_farOf_8 : decode cX7_farOf 8 = .ok (.if_icmp .ge 32, 3) := by decide +kernel
theorem dX7_farOf_11 : decode cX7_farOf 11 = .ok (.iload_n 3, 1) := by decide +kernel
theorem dX7_farOf_12 : decode cX7_farOf 12 = .ok (.aload_n 0, 1) := by decide +kernel
theorem dX7_farOf_13 : decode cX7_farOf 13 = .ok (.iconst 3, 1) := by decide +kernel
theorem dX7_farOf_14 : decode cX7_farOf 14 = .ok (.iload_n 1, 1) := by decide +kernel
theorem dX7_farOf_15 : decode cX7_farOf 15 = .ok (.imul, 1) := by decide +kernel
theorem dX7_farOf_16 : decode cX7_farOf 16 = .ok (.iload 4, 2) := by decide +kernel
theorem dX7_farOf_18 : decode cX7_farOf 18 = .ok (.iadd, 1) := by decide +kernel
theorem dX7_farOf_19 : decode cX7_farOf 19 = .ok (.iaload, 1) := by decide +kernel
theorem dX7_farOf_20 : decode cX7_farOf 20 = .ok (.aload_n 0, 1) := by decide +kernel
theorem dX7_farOf_21 : decode cX7_farOf 21 = .ok (.iconst 3, 1) := by decide +kernel
theorem dX7_farOf_22 : decode cX7_farOf 22 = .ok (.iload_n 2, 1) := by decide +kernel
theorem dX7_farOf_23 : decode cX7_farOf 23 = .ok (.imul, 1) := by decide +kernel
theorem dX7_farOf_24 : decode cX7_farOf 24 = .ok (.iload 4, 2) := by decide +kernel
theorem dX7_farOf_26 : decode cX7_farOf 26 = .ok (.iadd, 1) := by decide +kernel
theorem dX7_farOf_27 : decode cX7_farOf 27 = .ok (.iaload, 1) := by decide +kernel
theorem dX7_farOf_28 : decode cX7_farOf 28 = .ok (.isub, 1) := by decide +kernel
theorem dX7_farOf_29 : decode cX7_farOf 29 = .ok (.invokestatic 258, 3) := by decide +kernel
theorem dX7_farOf_32 : decode cX7_farOf 32 = .ok (.iadd, 1) := by decide +kernel
theorem dX7_farOf_33 : decode cX7_farOf 33 = .ok (.istore_n 3, 1) := by decide +kernel
theorem dX7_farOf_34 : decode cX7_farOf 34 = .ok (.iinc 4 1, 3) := by decide +kernel
theorem dX7_farOf_37 : decode cX7_farOf 37 = .ok (.goto (-32), 3) := by decide +kernel
theorem dX7_farOf_40 : decode cX7_farOf 40 = .ok (.iload_n 3, 1) := by decide +kernel
theorem dX7_farOf_41 : decode cX7_farOf 41 = .ok (.iconst 2, 1) := by decide +kernel
theorem dX7_farOf_42 : decode cX7_farOf 42 = .ok (.idiv, 1) := by decide +kernel
theorem dX7_farOf_43 : decode cX7_farOf 43 = .ok (.ireturn, 1) := by decide +kernel
theorem dX7_hides_0 : decode cX7_hides 0 = .ok (.iconst 0, 1) := by decide +kernel
theorem dX7_hides_1 : decode cX7_hides 1 = .ok (.istore 4, 2) := by decide +kernel
theorem dX7_hides_3 : decode cX7_hides 3 = .ok (.iload 4, 2) := by decide +kernel
theorem dX7_hides_5 : decode cX7_hides 5 = .ok (.aload_n 0, 1) := by decide +kernel
theorem dX7_hides_6 : decode cX7_hides 6 = .ok (.getfield 43, 3) := by decide +kernel
theorem dX7_hides_9 : decode cX7_hides 9 = .ok (.bipush 6, 2) := by decide +kernel
theorem dX7_hides_11 : decode cX7_hides 11 = .ok (.iaload, 1) := by decide +kernel
theorem dX7_hides_12 : decode cX7_hides 12 = .ok (.if_icmp .ge 44, 3) := by decide +kernel
theorem dX7_hides_15 : decode cX7_hides 15 = .ok (.aload_n 0, 1) := by decide +kernel
theorem dX7_hides_16 : decode cX7_hides 16 = .ok (.getfield 58, 3) := by decide +kernel
theorem dX7_hides_19 : decode cX7_hides 19 = .ok (.iload 4, 2) := by decide +kernel
theorem dX7_hides_21 : decode cX7_hides 21 = .ok (.iaload, 1) := by decide +kernel
theorem dX7_hides_22 : decode cX7_hides 22 = .ok (.iload_n 1, 1) := by decide +kernel
theorem dX7_hides_23 : decode cX7_hides 23 = .ok (.if_icmp .ne 27, 3) := by decide +kernel
theorem dX7_hides_26 : decode cX7_hides 26 = .ok (.aload_n 0, 1) := by decide +kernel
theorem dX7_hides_27 : decode cX7_hides 27 = .ok (.getfield 61, 3) := by decide +kernel
theorem dX7_hides_30 : decode cX7_hides 30 = .ok (.iload 4, 2) := by decide +kernel
theorem dX7_hides_32 : decode cX7_hides 32 = .ok (.iaload, 1) := by decide +kernel
theorem dX7_hides_33 : decode cX7_hides 33 = .ok (.iload_n 2, 1) := by decide +kernel
theorem dX7_hides_34 : decode cX7_hides 34 = .ok (.if_icmp .ne 16, 3) := by decide +kernel
theorem dX7_hides_37 : decode cX7_hides 37 = .ok (.aload_n 0, 1) := by decide +kernel
theorem dX7_hides_38 : decode cX7_hides 38 = .ok (.getfield 64, 3) := by decide +kernel
theorem dX7_hides_41 : decode cX7_hides 41 = .ok (.iload 4, 2) := by decide +kernel
theorem dX7_hides_43 : decode cX7_hides 43 = .ok (.iaload, 1) := by decide +kernel
theorem dX7_hides_44 : decode cX7_hides 44 = .ok (.iload_n 3, 1) := by decide +kernel
theorem dX7_hides_45 : decode cX7_hides 45 = .ok (.if_icmp .ne 5, 3) := by decide +kernel
theorem dX7_hides_48 : decode cX7_hides 48 = .ok (.iconst 1, 1) := by decide +kernel
theorem dX7_hides_49 : decode cX7_hides 49 = .ok (.ireturn, 1) := by decide +kernel
theorem dX7_hides_50 : decode cX7_hides 50 = .ok (.iinc 4 1, 3) := by decide +kernel
theorem dX7_hides_53 : decode cX7_hides 53 = .ok (.goto (-50), 3) := by decide +kernel
theorem dX7_hides_56 : decode cX7_hides 56 = .ok (.iconst 0, 1) := by decide +kernel
theorem dX7_hides_57 : decode cX7_hides 57 = .ok (.ireturn, 1) := by decide +kernel
theorem dX7_stays_0 : decode cX7_stays 0 = .ok (.aload_n 0, 1) := by decide +kernel
theorem dX7_stays_1 : decode cX7_stays 1 = .ok (.getfield 46, 3) := by decide +kernel
theorem dX7_stays_4 : decode cX7_stays 4 = .ok (.iload_n 3, 1) := by decide +kernel
theorem dX7_stays_5 : decode cX7_stays 5 = .ok (.iaload, 1) := by decide +kernel
theorem dX7_stays_6 : decode cX7_stays 6 = .ok (.iconst 4, 1) := by decide +kernel
theorem dX7_stays_7 : decode cX7_stays 7 = .ok (.if_icmp .eq 19, 3) := by decide +kernel
theorem dX7_stays_10 : decode cX7_stays 10 = .ok (.aload_n 0, 1) := by decide +kernel
theorem dX7_stays_11 : decode cX7_stays 11 = .ok (.getfield 46, 3) := by decide +kernel
theorem dX7_stays_14 : decode cX7_stays 14 = .ok (.iload_n 3, 1) := by decide +kernel
theorem dX7_stays_15 : decode cX7_stays 15 = .ok (.iaload, 1) := by decide +kernel
theorem dX7_stays_16 : decode cX7_stays 16 = .ok (.iconst 1, 1) := by decide +kernel
theorem dX7_stays_17 : decode cX7_stays 17 = .ok (.if_icmp .ne 11, 3) := by decide +kernel
theorem dX7_stays_20 : decode cX7_stays 20 = .ok (.iload_n 2, 1) := by decide +kernel
theorem dX7_stays_21 : decode cX7_stays 21 = .ok (.iconst 2, 1) := by decide +kernel
theorem dX7_stays_22 : decode cX7_stays 22 = .ok (.irem, 1) := by decide +kernel
theorem dX7_stays_23 : decode cX7_stays 23 = .ok (.ifCond .ne 5, 3) := by decide +kernel
theorem dX7_stays_26 : decode cX7_stays 26 = .ok (.iconst 1, 1) := by decide +kernel
theorem dX7_stays_27 : decode cX7_stays 27 = .ok (.ireturn, 1) := by decide +kernel
theorem dX7_stays_28 : decode cX7_stays 28 = .ok (.iconst 0, 1) := by decide +kernel
theorem dX7_stays_29 : decode cX7_stays 29 = .ok (.istore 4, 2) := by decide +kernel
theorem dX7_stays_31 : decode cX7_stays 31 = .ok (.iload 4, 2) := by decide +kernel
theorem dX7_stays_33 : decode cX7_stays 33 = .ok (.aload_n 0, 1) := by decide +kernel
theorem dX7_stays_34 : decode cX7_stays 34 = .ok (.getfield 43, 3) := by decide +kernel
theorem dX7_stays_37 : decode cX7_stays 37 = .ok (.iconst 1, 1) := by decide +kernel
theorem dX7_stays_38 : decode cX7_stays 38 = .ok (.iaload, 1) := by decide +kernel
theorem dX7_stays_39 : decode cX7_stays 39 = .ok (.if_icmp .ge 53, 3) := by decide +kernel
theorem dX7_stays_42 : decode cX7_stays 42 = .ok (.iload 4, 2) := by decide +kernel
theorem dX7_stays_44 : decode cX7_stays 44 = .ok (.iload_n 3, 1) := by decide +kernel
theorem dX7_stays_45 : decode cX7_stays 45 = .ok (.if_icmp .eq 41, 3) := by decide +kernel
theorem dX7_stays_48 : decode cX7_stays 48 = .ok (.aload_n 0, 1) := by decide +kernel
theorem dX7_stays_49 : decode cX7_stays 49 = .ok (.getfield 46, 3) := by decide +kernel
theorem dX7_stays_52 : decode cX7_stays 52 = .ok (.iload 4, 2) := by decide +kernel
theorem dX7_stays_54 : decode cX7_stays 54 = .ok (.iaload, 1) := by decide +kernel
theorem dX7_stays_55 : decode cX7_stays 55 = .ok (.iconst 4, 1) := by decide +kernel
theorem dX7_stays_56 : decode cX7_stays 56 = .ok (.if_icmp .ne 30, 3) := by decide +kernel
theorem dX7_stays_59 : decode cX7_stays 59 = .ok (.aload_n 1, 1) := by decide +kernel
theorem dX7_stays_60 : decode cX7_stays 60 = .ok (.iload 4, 2) := by decide +kernel
theorem dX7_stays_62 : decode cX7_stays 62 = .ok (.invokestatic 261, 3) := by decide +kernel
theorem dX7_stays_65 : decode cX7_stays 65 = .ok (.ifCond .ne 21, 3) := by decide +kernel
theorem dX7_stays_68 : decode cX7_stays 68 = .ok (.aload_n 1, 1) := by decide +kernel
theorem dX7_stays_69 : decode cX7_stays 69 = .ok (.iload_n 3, 1) := by decide +kernel
theorem dX7_stays_70 : decode cX7_stays 70 = .ok (.iload 4, 2) := by decide +kernel
theorem dX7_stays_72 : decode cX7_stays 72 = .ok (.invokestatic 265, 3) := by decide +kernel
theorem dX7_stays_75 : decode cX7_stays 75 = .ok (.aload_n 0, 1) := by decide +kernel
theorem dX7_stays_76 : decode cX7_stays 76 = .ok (.getfield 43, 3) := by decide +kernel
theorem dX7_stays_79 : decode cX7_stays 79 = .ok (.iconst 4, 1) := by decide +kernel
theorem dX7_stays_80 : decode cX7_stays 80 = .ok (.iaload, 1) := by decide +kernel
theorem dX7_stays_81 : decode cX7_stays 81 = .ok (.if_icmp .gt 5, 3) := by decide +kernel
theorem dX7_stays_84 : decode cX7_stays 84 = .ok (.iconst 1, 1) := by decide +kernel
theorem dX7_stays_85 : decode cX7_stays 85 = .ok (.ireturn, 1) := by decide +kernel
theorem dX7_stays_86 : decode cX7_stays 86 = .ok (.iinc 4 1, 3) := by decide +kernel
theorem dX7_stays_89 : decode cX7_stays 89 = .ok (.goto (-58), 3) := by decide +kernel
theorem dX7_stays_92 : decode cX7_stays 92 = .ok (.iconst 0, 1) := by decide +kernel
theorem dX7_stays_93 : decode cX7_stays 93 = .ok (.ireturn, 1) := by decide +kernel
theorem dX7_towards_0 : decode cX7_towards 0 = .ok (.iload 4, 2) := by decide +kernel
theorem dX7_towards_2 : decode cX7_towards 2 = .ok (.iconst (-1), 1) := by decide +kernel
theorem dX7_towards_3 : decode cX7_towards 3 = .ok (.if_icmp .eq 12, 3) := by decide +kernel
theorem dX7_towards_6 : decode cX7_towards 6 = .ok (.aload_n 1, 1) := by decide +kernel
theorem dX7_towards_7 : decode cX7_towards 7 = .ok (.iload 4, 2) := by decide +kernel
theorem dX7_towards_9 : decode cX7_towards 9 = .ok (.invokestatic 261, 3) := by decide +kernel
theorem dX7_towards_12 : decode cX7_towards 12 = .ok (.ifCond .eq 5, 3) := by decide +kernel
theorem dX7_towards_15 : decode cX7_towards 15 = .ok (.iconst (-1), 1) := by decide +kernel
theorem dX7_towards_16 : decode cX7_towards 16 = .ok (.ireturn, 1) := by decide +kernel
theorem dX7_towards_17 : decode cX7_towards 17 = .ok (.aload_n 0, 1) := by decide +kernel
theorem dX7_towards_18 : decode cX7_towards 18 = .ok (.iload_n 2, 1) := by decide +kernel
theorem dX7_towards_19 : decode cX7_towards 19 = .ok (.iload_n 3, 1) := by decide +kernel
theorem dX7_towards_20 : decode cX7_towards 20 = .ok (.iload 4, 2) := by decide +kernel
theorem dX7_towards_22 : decode cX7_towards 22 = .ok (.invokevirtual 269, 3) := by decide +kernel
theorem dX7_towards_25 : decode cX7_towards 25 = .ok (.ifCond .ne 6, 3) := by decide +kernel
theorem dX7_towards_28 : decode cX7_towards 28 = .ok (.iload 4, 2) := by decide +kernel
theorem dX7_towards_30 : decode cX7_towards 30 = .ok (.ireturn, 1) := by decide +kernel
theorem dX7_towards_31 : decode cX7_towards 31 = .ok (.iconst (-1), 1) := by decide +kernel
theorem dX7_towards_32 : decode cX7_towards 32 = .ok (.istore 5, 2) := by decide +kernel
theorem dX7_towards_34 : decode cX7_towards 34 = .ok (.iconst 0, 1) := by decide +kernel
theorem dX7_towards_35 : decode cX7_towards 35 = .ok (.istore 6, 2) := by decide +kernel
theorem dX7_towards_37 : decode cX7_towards 37 = .ok (.iload 6, 2) := by decide +kernel
theorem dX7_towards_39 : decode cX7_towards 39 = .ok (.aload_n 0, 1) := by decide +kernel
theorem dX7_towards_40 : decode cX7_towards 40 = .ok (.getfield 43, 3) := by decide +kernel
theorem dX7_towards_43 : decode cX7_towards 43 = .ok (.iconst 1, 1) := by decide +kernel
theorem dX7_towards_44 : decode cX7_towards 44 = .ok (.iaload, 1) := by decide +kernel
theorem dX7_towards_45 : decode cX7_towards 45 = .ok (.if_icmp .ge 62, 3) := by decide +kernel
theorem dX7_towards_48 : decode cX7_towards 48 = .ok (.iload 6, 2) := by decide +kernel
theorem dX7_towards_50 : decode cX7_towards 50 = .ok (.iload_n 3, 1) := by decide +kernel
theorem dX7_towards_51 : decode cX7_towards 51 = .ok (.if_icmp .eq 50, 3) := by decide +kernel
theorem dX7_towards_54 : decode cX7_towards 54 = .ok (.aload_n 1, 1) := by decide +kernel
theorem dX7_towards_55 : decode cX7_towards 55 = .ok (.iload 6, 2) := by decide +kernel
theorem dX7_towards_57 : decode cX7_towards 57 = .ok (.invokestatic 261, 3) := by decide +kernel
theorem dX7_towards_60 : decode cX7_towards 60 = .ok (.ifCond .ne 41, 3) := by decide +kernel
theorem dX7_towards_63 : decode cX7_towards 63 = .ok (.aload_n 0, 1) := by decide +kernel
theorem dX7_towards_64 : decode cX7_towards 64 = .ok (.iload_n 2, 1) := by decide +kernel
theorem dX7_towards_65 : decode cX7_towards 65 = .ok (.iload_n 3, 1) := by decide +kernel
theorem dX7_towards_66 : decode cX7_towards 66 = .ok (.iload 6, 2) := by decide +kernel
theorem dX7_towards_68 : decode cX7_towards 68 = .ok (.invokevirtual 269, 3) := by decide +kernel
theorem dX7_towards_71 : decode cX7_towards 71 = .ok (.ifCond .ne 30, 3) := by decide +kernel
theorem dX7_towards_74 : decode cX7_towards 74 = .ok (.iload 5, 2) := by decide +kernel
theorem dX7_towards_76 : decode cX7_towards 76 = .ok (.iconst (-1), 1) := by decide +kernel
theorem dX7_towards_77 : decode cX7_towards 77 = .ok (.if_icmp .eq 20, 3) := by decide +kernel
theorem dX7_towards_80 : decode cX7_towards 80 = .ok (.aload_n 1, 1) := by decide +kernel
theorem dX7_towards_81 : decode cX7_towards 81 = .ok (.iload_n 3, 1) := by decide +kernel
theorem dX7_towards_82 : decode cX7_towards 82 = .ok (.iload 6, 2) := by decide +kernel
theorem dX7_towards_84 : decode cX7_towards 84 = .ok (.invokestatic 265, 3) := by decide +kernel
theorem dX7_towards_87 : decode cX7_towards 87 = .ok (.aload_n 1, 1) := by decide +kernel
theorem dX7_towards_88 : decode cX7_towards 88 = .ok (.iload_n 3, 1) := by decide +kernel
theorem dX7_towards_89 : decode cX7_towards 89 = .ok (.iload 5, 2) := by decide +kernel
theorem dX7_towards_91 : decode cX7_towards 91 = .ok (.invokestatic 265, 3) := by decide +kernel
theorem dX7_towards_94 : decode cX7_towards 94 = .ok (.if_icmp .ge 7, 3) := by decide +kernel
theorem dX7_towards_97 : decode cX7_towards 97 = .ok (.iload 6, 2) := by decide +kernel
theorem dX7_towards_99 : decode cX7_towards 99 = .ok (.istore 5, 2) := by decide +kernel
theorem dX7_towards_101 : decode cX7_towards 101 = .ok (.iinc 6 1, 3) := by decide +kernel
theorem dX7_towards_104 : decode cX7_towards 104 = .ok (.goto (-67), 3) := by decide +kernel
theorem dX7_towards_107 : decode cX7_towards 107 = .ok (.iload 5, 2) := by decide +kernel
theorem dX7_towards_109 : decode cX7_towards 109 = .ok (.ireturn, 1) := by decide +kernel
theorem dX7_mostOf_0 : decode cX7_mostOf 0 = .ok (.iload_n 0, 1) := by decide +kernel
theorem dX7_mostOf_1 : decode cX7_mostOf 1 = .ok (.iload_n 1, 1) := by decide +kernel
theorem dX7_mostOf_2 : decode cX7_mostOf 2 = .ok (.if_icmp .lt 12, 3) := by decide +kernel
theorem dX7_mostOf_5 : decode cX7_mostOf 5 = .ok (.iload_n 0, 1) := by decide +kernel
theorem dX7_mostOf_6 : decode cX7_mostOf 6 = .ok (.iload_n 2, 1) := by decide +kernel
theorem dX7_mostOf_7 : decode cX7_mostOf 7 = .ok (.if_icmp .lt 7, 3) := by decide +kernel
theorem dX7_mostOf_10 : decode cX7_mostOf 10 = .ok (.iconst 0, 1) := by decide +kernel
theorem dX7_mostOf_11 : decode cX7_mostOf 11 = .ok (.goto 13, 3) := by decide +kernel
theorem dX7_mostOf_14 : decode cX7_mostOf 14 = .ok (.iload_n 1, 1) := by decide +kernel
theorem dX7_mostOf_15 : decode cX7_mostOf 15 = .ok (.iload_n 2, 1) := by decide +kernel
theorem dX7_mostOf_16 : decode cX7_mostOf 16 = .ok (.if_icmp .lt 7, 3) := by decide +kernel
theorem dX7_mostOf_19 : decode cX7_mostOf 19 = .ok (.iconst 1, 1) := by decide +kernel
theorem dX7_mostOf_20 : decode cX7_mostOf 20 = .ok (.goto 4, 3) := by decide +kernel
theorem dX7_mostOf_23 : decode cX7_mostOf 23 = .ok (.iconst 2, 1) := by decide +kernel
theorem dX7_mostOf_24 : decode cX7_mostOf 24 = .ok (.ireturn, 1) := by decide +kernel
theorem dX7_moveOne_0 : decode cX7_moveOne 0 = .ok (.iconst 0, 1) := by decide +kernel
theorem dX7_moveOne_1 : decode cX7_moveOne 1 = .ok (.istore 6, 2) := by decide +kernel
theorem dX7_moveOne_3 : decode cX7_moveOne 3 = .ok (.iload 6, 2) := by decide +kernel
theorem dX7_moveOne_5 : decode cX7_moveOne 5 = .ok (.iconst 3, 1) := by decide +kernel
theorem dX7_moveOne_6 : decode cX7_moveOne 6 = .ok (.if_icmp .ge 24, 3) := by decide +kernel
theorem dX7_moveOne_9 : decode cX7_moveOne 9 = .ok (.aload_n 0, 1) := by decide +kernel
theorem dX7_moveOne_10 : decode cX7_moveOne 10 = .ok (.getfield 89, 3) := by decide +kernel
theorem dX7_moveOne_13 : decode cX7_moveOne 13 = .ok (.iload 6, 2) := by decide +kernel
theorem dX7_moveOne_15 : decode cX7_moveOne 15 = .ok (.aload_n 1, 1) := by decide +kernel
theorem dX7_moveOne_16 : decode cX7_moveOne 16 = .ok (.iconst 3, 1) := by decide +kernel
theorem dX7_moveOne_17 : decode cX7_moveOne 17 = .ok (.iload_n 3, 1) := by decide +kernel
theorem dX7_moveOne_18 : decode cX7_moveOne 18 = .ok (.imul, 1) := by decide +kernel
theorem dX7_moveOne_19 : decode cX7_moveOne 19 = .ok (.iload 6, 2) := by decide +kernel
theorem dX7_moveOne_21 : decode cX7_moveOne 21 = .ok (.iadd, 1) := by decide +kernel
theorem dX7_moveOne_22 : decode cX7_moveOne 22 = .ok (.iaload, 1) := by decide +kernel
theorem dX7_moveOne_23 : decode cX7_moveOne 23 = .ok (.iastore, 1) := by decide +kernel
theorem dX7_moveOne_24 : decode cX7_moveOne 24 = .ok (.iinc 6 1, 3) := by decide +kernel
theorem dX7_moveOne_27 : decode cX7_moveOne 27 = .ok (.goto (-24), 3) := by decide +kernel
theorem dX7_moveOne_30 : decode cX7_moveOne 30 = .ok (.aload_n 0, 1) := by decide +kernel
theorem dX7_moveOne_31 : decode cX7_moveOne 31 = .ok (.aload_n 1, 1) := by decide +kernel
theorem dX7_moveOne_32 : decode cX7_moveOne 32 = .ok (.iload_n 2, 1) := by decide +kernel
theorem dX7_moveOne_33 : decode cX7_moveOne 33 = .ok (.iload_n 3, 1) := by decide +kernel
theorem dX7_moveOne_34 : decode cX7_moveOne 34 = .ok (.invokevirtual 272, 3) := by decide +kernel
theorem dX7_moveOne_37 : decode cX7_moveOne 37 = .ok (.ifCond .eq 4, 3) := by decide +kernel
theorem dX7_moveOne_40 : decode cX7_moveOne 40 = .ok (.return_, 1) := by decide +kernel
theorem dX7_moveOne_41 : decode cX7_moveOne 41 = .ok (.aload_n 0, 1) := by decide +kernel
theorem dX7_moveOne_42 : decode cX7_moveOne 42 = .ok (.aload_n 1, 1) := by decide +kernel
theorem dX7_moveOne_43 : decode cX7_moveOne 43 = .ok (.iload_n 2, 1) := by decide +kernel
theorem dX7_moveOne_44 : decode cX7_moveOne 44 = .ok (.iload_n 3, 1) := by decide +kernel
theorem dX7_moveOne_45 : decode cX7_moveOne 45 = .ok (.iload 4, 2) := by decide +kernel
theorem dX7_moveOne_47 : decode cX7_moveOne 47 = .ok (.invokevirtual 276, 3) := by decide +kernel
theorem dX7_moveOne_50 : decode cX7_moveOne 50 = .ok (.istore 6, 2) := by decide +kernel
theorem dX7_moveOne_52 : decode cX7_moveOne 52 = .ok (.iload 5, 2) := by decide +kernel
theorem dX7_moveOne_54 : decode cX7_moveOne 54 = .ok (.iconst 1, 1) := by decide +kernel
theorem dX7_moveOne_55 : decode cX7_moveOne 55 = .ok (.iand, 1) := by decide +kernel
theorem dX7_moveOne_56 : decode cX7_moveOne 56 = .ok (.iconst 1, 1) := by decide +kernel
theorem dX7_moveOne_57 : decode cX7_moveOne 57 = .ok (.if_icmp .ne 16, 3) := by decide +kernel
theorem dX7_moveOne_60 : decode cX7_moveOne 60 = .ok (.aload_n 0, 1) := by decide +kernel
theorem dX7_moveOne_61 : decode cX7_moveOne 61 = .ok (.getfield 43, 3) := by decide +kernel
theorem dX7_moveOne_64 : decode cX7_moveOne 64 = .ok (.iconst 2, 1) := by decide +kernel
theorem dX7_moveOne_65 : decode cX7_moveOne 65 = .ok (.iaload, 1) := by decide +kernel
theorem dX7_moveOne_66 : decode cX7_moveOne 66 = .ok (.iconst 1, 1) := by decide +kernel
theorem dX7_moveOne_67 : decode cX7_moveOne 67 = .ok (.iadd, 1) := by decide +kernel
theorem dX7_moveOne_68 : decode cX7_moveOne 68 = .ok (.iconst 2, 1) := by decide +kernel
theorem dX7_moveOne_69 : decode cX7_moveOne 69 = .ok (.idiv, 1) := by decide +kernel
theorem dX7_moveOne_70 : decode cX7_moveOne 70 = .ok (.goto 9, 3) := by decide +kernel
theorem dX7_moveOne_73 : decode cX7_moveOne 73 = .ok (.aload_n 0, 1) := by decide +kernel
theorem dX7_moveOne_74 : decode cX7_moveOne 74 = .ok (.getfield 43, 3) := by decide +kernel
theorem dX7_moveOne_77 : decode cX7_moveOne 77 = .ok (.iconst 2, 1) := by decide +kernel
theorem dX7_moveOne_78 : decode cX7_moveOne 78 = .ok (.iaload, 1) := by decide +kernel
theorem dX7_moveOne_79 : decode cX7_moveOne 79 = .ok (.istore 7, 2) := by decide +kernel
theorem dX7_moveOne_81 : decode cX7_moveOne 81 = .ok (.aload_n 0, 1) := by decide +kernel
theorem dX7_moveOne_82 : decode cX7_moveOne 82 = .ok (.getfield 46, 3) := by decide +kernel
theorem dX7_moveOne_85 : decode cX7_moveOne 85 = .ok (.iload_n 3, 1) := by decide +kernel
theorem dX7_moveOne_86 : decode cX7_moveOne 86 = .ok (.iaload, 1) := by decide +kernel
theorem dX7_moveOne_87 : decode cX7_moveOne 87 = .ok (.iconst 2, 1) := by decide +kernel
theorem dX7_moveOne_88 : decode cX7_moveOne 88 = .ok (.if_icmp .ne 10, 3) := by decide +kernel
theorem dX7_moveOne_91 : decode cX7_moveOne 91 = .ok (.iconst 2, 1) := by decide +kernel
theorem dX7_moveOne_92 : decode cX7_moveOne 92 = .ok (.iload 7, 2) := by decide +kernel
theorem dX7_moveOne_94 : decode cX7_moveOne 94 = .ok (.imul, 1) := by decide +kernel
theorem dX7_moveOne_95 : decode cX7_moveOne 95 = .ok (.goto 5, 3) := by decide +kernel
theorem dX7_moveOne_98 : decode cX7_moveOne 98 = .ok (.iload 7, 2) := by decide +kernel
theorem dX7_moveOne_100 : decode cX7_moveOne 100 = .ok (.istore 8, 2) := by decide +kernel
theorem dX7_moveOne_102 : decode cX7_moveOne 102 = .ok (.iload 8, 2) := by decide +kernel
theorem dX7_moveOne_104 : decode cX7_moveOne 104 = .ok (.ifCond .le 32, 3) := by decide +kernel
theorem dX7_moveOne_107 : decode cX7_moveOne 107 = .ok (.iload 6, 2) := by decide +kernel
theorem dX7_moveOne_109 : decode cX7_moveOne 109 = .ok (.iconst (-1), 1) := by decide +kernel
theorem dX7_moveOne_110 : decode cX7_moveOne 110 = .ok (.if_icmp .eq 26, 3) := by decide +kernel
theorem dX7_moveOne_113 : decode cX7_moveOne 113 = .ok (.aload_n 0, 1) := by decide +kernel
theorem dX7_moveOne_114 : decode cX7_moveOne 114 = .ok (.aload_n 1, 1) := by decide +kernel
theorem dX7_moveOne_115 : decode cX7_moveOne 115 = .ok (.iconst 3, 1) := by decide +kernel
theorem dX7_moveOne_116 : decode cX7_moveOne 116 = .ok (.iload 6, 2) := by decide +kernel
theorem dX7_moveOne_118 : decode cX7_moveOne 118 = .ok (.imul, 1) := by decide +kernel
theorem dX7_moveOne_119 : decode cX7_moveOne 119 = .ok (.iload 5, 2) := by decide +kernel
theorem dX7_moveOne_121 : decode cX7_moveOne 121 = .ok (.invokevirtual 280, 3) := by decide +kernel
theorem dX7_moveOne_124 : decode cX7_moveOne 124 = .ok (.ifCond .ne 6, 3) := by decide +kernel
theorem dX7_moveOne_127 : decode cX7_moveOne 127 = .ok (.iconst (-1), 1) := by decide +kernel
theorem dX7_moveOne_128 : decode cX7_moveOne 128 = .ok (.istore 6, 2) := by decide +kernel
theorem dX7_moveOne_130 : decode cX7_moveOne 130 = .ok (.iinc 8 (-1), 3) := by decide +kernel
theorem dX7_moveOne_133 : decode cX7_moveOne 133 = .ok (.goto (-31), 3) := by decide +kernel
theorem dX7_moveOne_136 : decode cX7_moveOne 136 = .ok (.aload_n 0, 1) := by decide +kernel
theorem dX7_moveOne_137 : decode cX7_moveOne 137 = .ok (.getfield 46, 3) := by decide +kernel
theorem dX7_moveOne_140 : decode cX7_moveOne 140 = .ok (.iload_n 3, 1) := by decide +kernel
theorem dX7_moveOne_141 : decode cX7_moveOne 141 = .ok (.iaload, 1) := by decide +kernel
theorem dX7_moveOne_142 : decode cX7_moveOne 142 = .ok (.iconst 3, 1) := by decide +kernel
theorem dX7_moveOne_143 : decode cX7_moveOne 143 = .ok (.if_icmp .eq 4, 3) := by decide +kernel
theorem dX7_moveOne_146 : decode cX7_moveOne 146 = .ok (.return_, 1) := by decide +kernel
theorem dX7_moveOne_147 : decode cX7_moveOne 147 = .ok (.aload_n 0, 1) := by decide +kernel
theorem dX7_moveOne_148 : decode cX7_moveOne 148 = .ok (.getfield 89, 3) := by decide +kernel
theorem dX7_moveOne_151 : decode cX7_moveOne 151 = .ok (.iconst 0, 1) := by decide +kernel
theorem dX7_moveOne_152 : decode cX7_moveOne 152 = .ok (.iaload, 1) := by decide +kernel
theorem dX7_moveOne_153 : decode cX7_moveOne 153 = .ok (.aload_n 0, 1) := by decide +kernel
theorem dX7_moveOne_154 : decode cX7_moveOne 154 = .ok (.getfield 89, 3) := by decide +kernel
theorem dX7_moveOne_157 : decode cX7_moveOne 157 = .ok (.iconst 1, 1) := by decide +kernel
theorem dX7_moveOne_158 : decode cX7_moveOne 158 = .ok (.iaload, 1) := by decide +kernel
theorem dX7_moveOne_159 : decode cX7_moveOne 159 = .ok (.aload_n 0, 1) := by decide +kernel
theorem dX7_moveOne_160 : decode cX7_moveOne 160 = .ok (.getfield 89, 3) := by decide +kernel
theorem dX7_moveOne_163 : decode cX7_moveOne 163 = .ok (.iconst 2, 1) := by decide +kernel
theorem dX7_moveOne_164 : decode cX7_moveOne 164 = .ok (.iaload, 1) := by decide +kernel
theorem dX7_moveOne_165 : decode cX7_moveOne 165 = .ok (.invokestatic 283, 3) := by decide +kernel
theorem dX7_moveOne_168 : decode cX7_moveOne 168 = .ok (.istore 8, 2) := by decide +kernel
theorem dX7_moveOne_170 : decode cX7_moveOne 170 = .ok (.iload 5, 2) := by decide +kernel
theorem dX7_moveOne_172 : decode cX7_moveOne 172 = .ok (.iconst 2, 1) := by decide +kernel
theorem dX7_moveOne_173 : decode cX7_moveOne 173 = .ok (.iand, 1) := by decide +kernel
theorem dX7_moveOne_174 : decode cX7_moveOne 174 = .ok (.ifCond .eq 9, 3) := by decide +kernel
theorem dX7_moveOne_177 : decode cX7_moveOne 177 = .ok (.iload 8, 2) := by decide +kernel
theorem dX7_moveOne_179 : decode cX7_moveOne 179 = .ok (.ifCond .ne 4, 3) := by decide +kernel
theorem dX7_moveOne_182 : decode cX7_moveOne 182 = .ok (.return_, 1) := by decide +kernel
theorem dX7_moveOne_183 : decode cX7_moveOne 183 = .ok (.aload_n 0, 1) := by decide +kernel
theorem dX7_moveOne_184 : decode cX7_moveOne 184 = .ok (.getfield 89, 3) := by decide +kernel
theorem dX7_moveOne_187 : decode cX7_moveOne 187 = .ok (.iload 8, 2) := by decide +kernel
theorem dX7_moveOne_189 : decode cX7_moveOne 189 = .ok (.dup2, 1) := by decide +kernel
theorem dX7_moveOne_190 : decode cX7_moveOne 190 = .ok (.iaload, 1) := by decide +kernel
theorem dX7_moveOne_191 : decode cX7_moveOne 191 = .ok (.iconst 1, 1) := by decide +kernel
theorem dX7_moveOne_192 : decode cX7_moveOne 192 = .ok (.isub, 1) := by decide +kernel
theorem dX7_moveOne_193 : decode cX7_moveOne 193 = .ok (.iastore, 1) := by decide +kernel
theorem dX7_moveOne_194 : decode cX7_moveOne 194 = .ok (.aload_n 0, 1) := by decide +kernel
theorem dX7_moveOne_195 : decode cX7_moveOne 195 = .ok (.getfield 89, 3) := by decide +kernel
theorem dX7_moveOne_198 : decode cX7_moveOne 198 = .ok (.iload 8, 2) := by decide +kernel
theorem dX7_moveOne_200 : decode cX7_moveOne 200 = .ok (.iconst 1, 1) := by decide +kernel
theorem dX7_moveOne_201 : decode cX7_moveOne 201 = .ok (.iadd, 1) := by decide +kernel
theorem dX7_moveOne_202 : decode cX7_moveOne 202 = .ok (.iconst 3, 1) := by decide +kernel
theorem dX7_moveOne_203 : decode cX7_moveOne 203 = .ok (.irem, 1) := by decide +kernel
theorem dX7_moveOne_204 : decode cX7_moveOne 204 = .ok (.dup2, 1) := by decide +kernel
theorem dX7_moveOne_205 : decode cX7_moveOne 205 = .ok (.iaload, 1) := by decide +kernel
theorem dX7_moveOne_206 : decode cX7_moveOne 206 = .ok (.iconst 1, 1) := by decide +kernel
theorem dX7_moveOne_207 : decode cX7_moveOne 207 = .ok (.iadd, 1) := by decide +kernel
theorem dX7_moveOne_208 : decode cX7_moveOne 208 = .ok (.iastore, 1) := by decide +kernel
theorem dX7_moveOne_209 : decode cX7_moveOne 209 = .ok (.return_, 1) := by decide +kernel
theorem dX7_goNear_0 : decode cX7_goNear 0 = .ok (.aload_n 0, 1) := by decide +kernel
theorem dX7_goNear_1 : decode cX7_goNear 1 = .ok (.getfield 89, 3) := by decide +kernel
theorem dX7_goNear_4 : decode cX7_goNear 4 = .ok (.iconst 0, 1) := by decide +kernel
theorem dX7_goNear_5 : decode cX7_goNear 5 = .ok (.iaload, 1) := by decide +kernel
theorem dX7_goNear_6 : decode cX7_goNear 6 = .ok (.aload_n 1, 1) := by decide +kernel
theorem dX7_goNear_7 : decode cX7_goNear 7 = .ok (.iload_n 2, 1) := by decide +kernel
theorem dX7_goNear_8 : decode cX7_goNear 8 = .ok (.iaload, 1) := by decide +kernel
theorem dX7_goNear_9 : decode cX7_goNear 9 = .ok (.isub, 1) := by decide +kernel
theorem dX7_goNear_10 : decode cX7_goNear 10 = .ok (.istore 4, 2) := by decide +kernel
theorem dX7_goNear_12 : decode cX7_goNear 12 = .ok (.aload_n 0, 1) := by decide +kernel
theorem dX7_goNear_13 : decode cX7_goNear 13 = .ok (.getfield 89, 3) := by decide +kernel
theorem dX7_goNear_16 : decode cX7_goNear 16 = .ok (.iconst 1, 1) := by decide +kernel
theorem dX7_goNear_17 : decode cX7_goNear 17 = .ok (.iaload, 1) := by decide +kernel
theorem dX7_goNear_18 : decode cX7_goNear 18 = .ok (.aload_n 1, 1) := by decide +kernel
theorem dX7_goNear_19 : decode cX7_goNear 19 = .ok (.iload_n 2, 1) := by decide +kernel
theorem dX7_goNear_20 : decode cX7_goNear 20 = .ok (.iconst 1, 1) := by decide +kernel
theorem dX7_goNear_21 : decode cX7_goNear 21 = .ok (.iadd, 1) := by decide +kernel
theorem dX7_goNear_22 : decode cX7_goNear 22 = .ok (.iaload, 1) := by decide +kernel
theorem dX7_goNear_23 : decode cX7_goNear 23 = .ok (.isub, 1) := by decide +kernel
theorem dX7_goNear_24 : decode cX7_goNear 24 = .ok (.istore 5, 2) := by decide +kernel
theorem dX7_goNear_26 : decode cX7_goNear 26 = .ok (.aload_n 0, 1) := by decide +kernel
theorem dX7_goNear_27 : decode cX7_goNear 27 = .ok (.getfield 89, 3) := by decide +kernel
theorem dX7_goNear_30 : decode cX7_goNear 30 = .ok (.iconst 2, 1) := by decide +kernel
theorem dX7_goNear_31 : decode cX7_goNear 31 = .ok (.iaload, 1) := by decide +kernel
theorem dX7_goNear_32 : decode cX7_goNear 32 = .ok (.aload_n 1, 1) := by decide +kernel
theorem dX7_goNear_33 : decode cX7_goNear 33 = .ok (.iload_n 2, 1) := by decide +kernel
theorem dX7_goNear_34 : decode cX7_goNear 34 = .ok (.iconst 2, 1) := by decide +kernel
theorem dX7_goNear_35 : decode cX7_goNear 35 = .ok (.iadd, 1) := by decide +kernel
theorem dX7_goNear_36 : decode cX7_goNear 36 = .ok (.iaload, 1) := by decide +kernel
theorem dX7_goNear_37 : decode cX7_goNear 37 = .ok (.isub, 1) := by decide +kernel
theorem dX7_goNear_38 : decode cX7_goNear 38 = .ok (.istore 6, 2) := by decide +kernel
theorem dX7_goNear_40 : decode cX7_goNear 40 = .ok (.iload 4, 2) := by decide +kernel
theorem dX7_goNear_42 : decode cX7_goNear 42 = .ok (.iload 5, 2) := by decide +kernel
theorem dX7_goNear_44 : decode cX7_goNear 44 = .ok (.iload 6, 2) := by decide +kernel
theorem dX7_goNear_46 : decode cX7_goNear 46 = .ok (.invokestatic 283, 3) := by decide +kernel
theorem dX7_goNear_49 : decode cX7_goNear 49 = .ok (.istore 7, 2) := by decide +kernel
theorem dX7_goNear_51 : decode cX7_goNear 51 = .ok (.iload 4, 2) := by decide +kernel
theorem dX7_goNear_53 : decode cX7_goNear 53 = .ok (.ineg, 1) := by decide +kernel
theorem dX7_goNear_54 : decode cX7_goNear 54 = .ok (.iload 5, 2) := by decide +kernel
theorem dX7_goNear_56 : decode cX7_goNear 56 = .ok (.ineg, 1) := by decide +kernel
theorem dX7_goNear_57 : decode cX7_goNear 57 = .ok (.iload 6, 2) := by decide +kernel
theorem dX7_goNear_59 : decode cX7_goNear 59 = .ok (.ineg, 1) := by decide +kernel
theorem dX7_goNear_60 : decode cX7_goNear 60 = .ok (.invokestatic 283, 3) := by decide +kernel
theorem dX7_goNear_63 : decode cX7_goNear 63 = .ok (.istore 8, 2) := by decide +kernel
theorem dX7_goNear_65 : decode cX7_goNear 65 = .ok (.iload 4, 2) := by decide +kernel
theorem dX7_goNear_67 : decode cX7_goNear 67 = .ok (.ifCond .ne 13, 3) := by decide +kernel
theorem dX7_goNear_70 : decode cX7_goNear 70 = .ok (.iload 5, 2) := by decide +kernel
theorem dX7_goNear_72 : decode cX7_goNear 72 = .ok (.ifCond .ne 8, 3) := by decide +kernel
theorem dX7_goNear_75 : decode cX7_goNear 75 = .ok (.iload 6, 2) := by decide +kernel
theorem dX7_goNear_77 : decode cX7_goNear 77 = .ok (.ifCond .eq 15, 3) := by decide +kernel
theorem dX7_goNear_80 : decode cX7_goNear 80 = .ok (.iload_n 3, 1) := by decide +kernel
theorem dX7_goNear_81 : decode cX7_goNear 81 = .ok (.iconst 2, 1) := by decide +kernel
theorem dX7_goNear_82 : decode cX7_goNear 82 = .ok (.iand, 1) := by decide +kernel
theorem dX7_goNear_83 : decode cX7_goNear 83 = .ok (.ifCond .eq 11, 3) := by decide +kernel
theorem dX7_goNear_86 : decode cX7_goNear 86 = .ok (.iload 8, 2) := by decide +kernel
theorem dX7_goNear_88 : decode cX7_goNear 88 = .ok (.iconst 1, 1) := by decide +kernel
theorem dX7_goNear_89 : decode cX7_goNear 89 = .ok (.if_icmp .ne 5, 3) := by decide +kernel
theorem dX7_goNear_92 : decode cX7_goNear 92 = .ok (.iconst 0, 1) := by decide +kernel
theorem dX7_goNear_93 : decode cX7_goNear 93 = .ok (.ireturn, 1) := by decide +kernel
theorem dX7_goNear_94 : decode cX7_goNear 94 = .ok (.aload_n 0, 1) := by decide +kernel
theorem dX7_goNear_95 : decode cX7_goNear 95 = .ok (.getfield 89, 3) := by decide +kernel
theorem dX7_goNear_98 : decode cX7_goNear 98 = .ok (.iload 7, 2) := by decide +kernel
theorem dX7_goNear_100 : decode cX7_goNear 100 = .ok (.dup2, 1) := by decide +kernel
theorem dX7_goNear_101 : decode cX7_goNear 101 = .ok (.iaload, 1) := by decide +kernel
theorem dX7_goNear_102 : decode cX7_goNear 102 = .ok (.iconst 1, 1) := by decide +kernel
theorem dX7_goNear_103 : decode cX7_goNear 103 = .ok (.isub, 1) := by decide +kernel
theorem dX7_goNear_104 : decode cX7_goNear 104 = .ok (.iastore, 1) := by decide +kernel
theorem dX7_goNear_105 : decode cX7_goNear 105 = .ok (.aload_n 0, 1) := by decide +kernel
theorem dX7_goNear_106 : decode cX7_goNear 106 = .ok (.getfield 89, 3) := by decide +kernel
theorem dX7_goNear_109 : decode cX7_goNear 109 = .ok (.iload 8, 2) := by decide +kernel
theorem dX7_goNear_111 : decode cX7_goNear 111 = .ok (.dup2, 1) := by decide +kernel
theorem dX7_goNear_112 : decode cX7_goNear 112 = .ok (.iaload, 1) := by decide +kernel
theorem dX7_goNear_113 : decode cX7_goNear 113 = .ok (.iconst 1, 1) := by decide +kernel
theorem dX7_goNear_114 : decode cX7_goNear 114 = .ok (.iadd, 1) := by decide +kernel
theorem dX7_goNear_115 : decode cX7_goNear 115 = .ok (.iastore, 1) := by decide +kernel
theorem dX7_goNear_116 : decode cX7_goNear 116 = .ok (.iconst 1, 1) := by decide +kernel
theorem dX7_goNear_117 : decode cX7_goNear 117 = .ok (.ireturn, 1) := by decide +kernel
theorem dX7_goNight_0 : decode cX7_goNight 0 = .ok (.aload_n 0, 1) := by decide +kernel
theorem dX7_goNight_1 : decode cX7_goNight 1 = .ok (.getfield 83, 3) := by decide +kernel
theorem dX7_goNight_4 : decode cX7_goNight 4 = .ok (.aload_n 1, 1) := by decide +kernel
theorem dX7_goNight_5 : decode cX7_goNight 5 = .ok (.invokestatic 287, 3) := by decide +kernel
theorem dX7_goNight_8 : decode cX7_goNight 8 = .ok (.iconst 0, 1) := by decide +kernel
theorem dX7_goNight_9 : decode cX7_goNight 9 = .ok (.istore 5, 2) := by decide +kernel
theorem dX7_goNight_11 : decode cX7_goNight 11 = .ok (.iload 5, 2) := by decide +kernel
theorem dX7_goNight_13 : decode cX7_goNight 13 = .ok (.aload_n 0, 1) := by decide +kernel
theorem dX7_goNight_14 : decode cX7_goNight 14 = .ok (.getfield 43, 3) := by decide +kernel
theorem dX7_goNight_17 : decode cX7_goNight 17 = .ok (.iconst 1, 1) := by decide +kernel
theorem dX7_goNight_18 : decode cX7_goNight 18 = .ok (.iaload, 1) := by decide +kernel
theorem dX7_goNight_19 : decode cX7_goNight 19 = .ok (.if_icmp .ge 72, 3) := by decide +kernel
theorem dX7_goNight_22 : decode cX7_goNight 22 = .ok (.aload_n 0, 1) := by decide +kernel
theorem dX7_goNight_23 : decode cX7_goNight 23 = .ok (.getfield 83, 3) := by decide +kernel
theorem dX7_goNight_26 : decode cX7_goNight 26 = .ok (.iload 5, 2) := by decide +kernel
theorem dX7_goNight_28 : decode cX7_goNight 28 = .ok (.invokestatic 261, 3) := by decide +kernel
theorem dX7_goNight_31 : decode cX7_goNight 31 = .ok (.ifCond .eq 6, 3) := by decide +kernel
theorem dX7_goNight_34 : decode cX7_goNight 34 = .ok (.goto 51, 3) := by decide +kernel
theorem dX7_goNight_37 : decode cX7_goNight 37 = .ok (.aload_n 0, 1) := by decide +kernel
theorem dX7_goNight_38 : decode cX7_goNight 38 = .ok (.aload_n 0, 1) := by decide +kernel
theorem dX7_goNight_39 : decode cX7_goNight 39 = .ok (.getfield 83, 3) := by decide +kernel
theorem dX7_goNight_42 : decode cX7_goNight 42 = .ok (.iload_n 2, 1) := by decide +kernel
theorem dX7_goNight_43 : decode cX7_goNight 43 = .ok (.iload 5, 2) := by decide +kernel
theorem dX7_goNight_45 : decode cX7_goNight 45 = .ok (.aload_n 3, 1) := by decide +kernel
theorem dX7_goNight_46 : decode cX7_goNight 46 = .ok (.iload 5, 2) := by decide +kernel
theorem dX7_goNight_48 : decode cX7_goNight 48 = .ok (.iaload, 1) := by decide +kernel
theorem dX7_goNight_49 : decode cX7_goNight 49 = .ok (.iload 4, 2) := by decide +kernel
theorem dX7_goNight_51 : decode cX7_goNight 51 = .ok (.invokevirtual 291, 3) := by decide +kernel
theorem dX7_goNight_54 : decode cX7_goNight 54 = .ok (.iconst 0, 1) := by decide +kernel
theorem dX7_goNight_55 : decode cX7_goNight 55 = .ok (.istore 6, 2) := by decide +kernel
theorem dX7_goNight_57 : decode cX7_goNight 57 = .ok (.iload 6, 2) := by decide +kernel
theorem dX7_goNight_59 : decode cX7_goNight 59 = .ok (.iconst 3, 1) := by decide +kernel
theorem dX7_goNight_60 : decode cX7_goNight 60 = .ok (.if_icmp .ge 25, 3) := by decide +kernel
theorem dX7_goNight_63 : decode cX7_goNight 63 = .ok (.aload_n 1, 1) := by decide +kernel
theorem dX7_goNight_64 : decode cX7_goNight 64 = .ok (.iconst 3, 1) := by decide +kernel
theorem dX7_goNight_65 : decode cX7_goNight 65 = .ok (.iload 5, 2) := by decide +kernel
theorem dX7_goNight_67 : decode cX7_goNight 67 = .ok (.imul, 1) := by decide +kernel
theorem dX7_goNight_68 : decode cX7_goNight 68 = .ok (.iload 6, 2) := by decide +kernel
end
section
theorem dX7_goNight_70 : decode cX7_goNight 70 = .ok (.iadd, 1) := by decide +kernel
theorem dX7_goNight_71 : decode cX7_goNight 71 = .ok (.aload_n 0, 1) := by decide +kernel
theorem dX7_goNight_72 : decode cX7_goNight 72 = .ok (.getfield 89, 3) := by decide +kernel
theorem dX7_goNight_75 : decode cX7_goNight 75 = .ok (.iload 6, 2) := by decide +kernel
theorem dX7_goNight_77 : decode cX7_goNight 77 = .ok (.iaload, 1) := by decide +kernel
theorem dX7_goNight_78 : decode cX7_goNight 78 = .ok (.iastore, 1) := by decide +kernel
theorem dX7_goNight_79 : decode cX7_goNight 79 = .ok (.iinc 6 1, 3) := by decide +kernel
theorem dX7_goNight_82 : decode cX7_goNight 82 = .ok (.goto (-25), 3) := by decide +kernel
theorem dX7_goNight_85 : decode cX7_goNight 85 = .ok (.iinc 5 1, 3) := by decide +kernel
theorem dX7_goNight_88 : decode cX7_goNight 88 = .ok (.goto (-77), 3) := by decide +kernel
theorem dX7_goNight_91 : decode cX7_goNight 91 = .ok (.iconst 0, 1) := by decide +kernel
theorem dX7_goNight_92 : decode cX7_goNight 92 = .ok (.istore 5, 2) := by decide +kernel
theorem dX7_goNight_94 : decode cX7_goNight 94 = .ok (.iconst 0, 1) := by decide +kernel
theorem dX7_goNight_95 : decode cX7_goNight 95 = .ok (.istore 6, 2) := by decide +kernel
theorem dX7_goNight_97 : decode cX7_goNight 97 = .ok (.iload 6, 2) := by decide +kernel
theorem dX7_goNight_99 : decode cX7_goNight 99 = .ok (.aload_n 0, 1) := by decide +kernel
theorem dX7_goNight_100 : decode cX7_goNight 100 = .ok (.getfield 43, 3) := by decide +kernel
theorem dX7_goNight_103 : decode cX7_goNight 103 = .ok (.iconst 1, 1) := by decide +kernel
theorem dX7_goNight_104 : decode cX7_goNight 104 = .ok (.iaload, 1) := by decide +kernel
theorem dX7_goNight_105 : decode cX7_goNight 105 = .ok (.if_icmp .ge 124, 3) := by decide +kernel
theorem dX7_goNight_108 : decode cX7_goNight 108 = .ok (.iload 6, 2) := by decide +kernel
theorem dX7_goNight_110 : decode cX7_goNight 110 = .ok (.iconst 1, 1) := by decide +kernel
theorem dX7_goNight_111 : decode cX7_goNight 111 = .ok (.iadd, 1) := by decide +kernel
theorem dX7_goNight_112 : decode cX7_goNight 112 = .ok (.istore 7, 2) := by decide +kernel
theorem dX7_goNight_114 : decode cX7_goNight 114 = .ok (.iload 7, 2) := by decide +kernel
theorem dX7_goNight_116 : decode cX7_goNight 116 = .ok (.aload_n 0, 1) := by decide +kernel
theorem dX7_goNight_117 : decode cX7_goNight 117 = .ok (.getfield 43, 3) := by decide +kernel
theorem dX7_goNight_120 : decode cX7_goNight 120 = .ok (.iconst 1, 1) := by decide +kernel
theorem dX7_goNight_121 : decode cX7_goNight 121 = .ok (.iaload, 1) := by decide +kernel
theorem dX7_goNight_122 : decode cX7_goNight 122 = .ok (.if_icmp .ge 101, 3) := by decide +kernel
theorem dX7_goNight_125 : decode cX7_goNight 125 = .ok (.aload_n 1, 1) := by decide +kernel
theorem dX7_goNight_126 : decode cX7_goNight 126 = .ok (.iload 6, 2) := by decide +kernel
theorem dX7_goNight_128 : decode cX7_goNight 128 = .ok (.invokestatic 261, 3) := by decide +kernel
theorem dX7_goNight_131 : decode cX7_goNight 131 = .ok (.ifCond .ne 92, 3) := by decide +kernel
theorem dX7_goNight_134 : decode cX7_goNight 134 = .ok (.aload_n 1, 1) := by decide +kernel
theorem dX7_goNight_135 : decode cX7_goNight 135 = .ok (.iload 7, 2) := by decide +kernel
theorem dX7_goNight_137 : decode cX7_goNight 137 = .ok (.invokestatic 261, 3) := by decide +kernel
theorem dX7_goNight_140 : decode cX7_goNight 140 = .ok (.ifCond .ne 77, 3) := by decide +kernel
theorem dX7_goNight_143 : decode cX7_goNight 143 = .ok (.aload_n 0, 1) := by decide +kernel
theorem dX7_goNight_144 : decode cX7_goNight 144 = .ok (.getfield 49, 3) := by decide +kernel
theorem dX7_goNight_147 : decode cX7_goNight 147 = .ok (.iload 6, 2) := by decide +kernel
theorem dX7_goNight_149 : decode cX7_goNight 149 = .ok (.iaload, 1) := by decide +kernel
theorem dX7_goNight_150 : decode cX7_goNight 150 = .ok (.aload_n 0, 1) := by decide +kernel
theorem dX7_goNight_151 : decode cX7_goNight 151 = .ok (.getfield 49, 3) := by decide +kernel
theorem dX7_goNight_154 : decode cX7_goNight 154 = .ok (.iload 7, 2) := by decide +kernel
theorem dX7_goNight_156 : decode cX7_goNight 156 = .ok (.iaload, 1) := by decide +kernel
theorem dX7_goNight_157 : decode cX7_goNight 157 = .ok (.if_icmp .eq 60, 3) := by decide +kernel
theorem dX7_goNight_160 : decode cX7_goNight 160 = .ok (.aload_n 1, 1) := by decide +kernel
theorem dX7_goNight_161 : decode cX7_goNight 161 = .ok (.iload 6, 2) := by decide +kernel
theorem dX7_goNight_163 : decode cX7_goNight 163 = .ok (.iload 7, 2) := by decide +kernel
theorem dX7_goNight_165 : decode cX7_goNight 165 = .ok (.invokestatic 265, 3) := by decide +kernel
theorem dX7_goNight_168 : decode cX7_goNight 168 = .ok (.aload_n 0, 1) := by decide +kernel
theorem dX7_goNight_169 : decode cX7_goNight 169 = .ok (.getfield 43, 3) := by decide +kernel
theorem dX7_goNight_172 : decode cX7_goNight 172 = .ok (.iconst 3, 1) := by decide +kernel
theorem dX7_goNight_173 : decode cX7_goNight 173 = .ok (.iaload, 1) := by decide +kernel
theorem dX7_goNight_174 : decode cX7_goNight 174 = .ok (.if_icmp .le 6, 3) := by decide +kernel
theorem dX7_goNight_177 : decode cX7_goNight 177 = .ok (.goto 40, 3) := by decide +kernel
theorem dX7_goNight_180 : decode cX7_goNight 180 = .ok (.aload_n 1, 1) := by decide +kernel
theorem dX7_goNight_181 : decode cX7_goNight 181 = .ok (.bipush 18, 2) := by decide +kernel
theorem dX7_goNight_183 : decode cX7_goNight 183 = .ok (.iload 6, 2) := by decide +kernel
theorem dX7_goNight_185 : decode cX7_goNight 185 = .ok (.iadd, 1) := by decide +kernel
theorem dX7_goNight_186 : decode cX7_goNight 186 = .ok (.iload 7, 2) := by decide +kernel
theorem dX7_goNight_188 : decode cX7_goNight 188 = .ok (.iastore, 1) := by decide +kernel
theorem dX7_goNight_189 : decode cX7_goNight 189 = .ok (.aload_n 1, 1) := by decide +kernel
theorem dX7_goNight_190 : decode cX7_goNight 190 = .ok (.bipush 18, 2) := by decide +kernel
theorem dX7_goNight_192 : decode cX7_goNight 192 = .ok (.iload 7, 2) := by decide +kernel
theorem dX7_goNight_194 : decode cX7_goNight 194 = .ok (.iadd, 1) := by decide +kernel
theorem dX7_goNight_195 : decode cX7_goNight 195 = .ok (.iload 6, 2) := by decide +kernel
theorem dX7_goNight_197 : decode cX7_goNight 197 = .ok (.iastore, 1) := by decide +kernel
theorem dX7_goNight_198 : decode cX7_goNight 198 = .ok (.aload_n 1, 1) := by decide +kernel
theorem dX7_goNight_199 : decode cX7_goNight 199 = .ok (.bipush 24, 2) := by decide +kernel
theorem dX7_goNight_201 : decode cX7_goNight 201 = .ok (.iload 6, 2) := by decide +kernel
theorem dX7_goNight_203 : decode cX7_goNight 203 = .ok (.iadd, 1) := by decide +kernel
theorem dX7_goNight_204 : decode cX7_goNight 204 = .ok (.iload_n 2, 1) := by decide +kernel
theorem dX7_goNight_205 : decode cX7_goNight 205 = .ok (.iastore, 1) := by decide +kernel
theorem dX7_goNight_206 : decode cX7_goNight 206 = .ok (.aload_n 1, 1) := by decide +kernel
theorem dX7_goNight_207 : decode cX7_goNight 207 = .ok (.bipush 24, 2) := by decide +kernel
theorem dX7_goNight_209 : decode cX7_goNight 209 = .ok (.iload 7, 2) := by decide +kernel
theorem dX7_goNight_211 : decode cX7_goNight 211 = .ok (.iadd, 1) := by decide +kernel
theorem dX7_goNight_212 : decode cX7_goNight 212 = .ok (.iload_n 2, 1) := by decide +kernel
theorem dX7_goNight_213 : decode cX7_goNight 213 = .ok (.iastore, 1) := by decide +kernel
theorem dX7_goNight_214 : decode cX7_goNight 214 = .ok (.iinc 5 1, 3) := by decide +kernel
theorem dX7_goNight_217 : decode cX7_goNight 217 = .ok (.iinc 7 1, 3) := by decide +kernel
theorem dX7_goNight_220 : decode cX7_goNight 220 = .ok (.goto (-106), 3) := by decide +kernel
theorem dX7_goNight_223 : decode cX7_goNight 223 = .ok (.iinc 6 1, 3) := by decide +kernel
theorem dX7_goNight_226 : decode cX7_goNight 226 = .ok (.goto (-129), 3) := by decide +kernel
theorem dX7_goNight_229 : decode cX7_goNight 229 = .ok (.iload 5, 2) := by decide +kernel
theorem dX7_goNight_231 : decode cX7_goNight 231 = .ok (.ireturn, 1) := by decide +kernel
theorem dX7_couples_0 : decode cX7_couples 0 = .ok (.iconst 0, 1) := by decide +kernel
theorem dX7_couples_1 : decode cX7_couples 1 = .ok (.istore_n 2, 1) := by decide +kernel
theorem dX7_couples_2 : decode cX7_couples 2 = .ok (.iconst 0, 1) := by decide +kernel
theorem dX7_couples_3 : decode cX7_couples 3 = .ok (.istore_n 3, 1) := by decide +kernel
theorem dX7_couples_4 : decode cX7_couples 4 = .ok (.iload_n 3, 1) := by decide +kernel
theorem dX7_couples_5 : decode cX7_couples 5 = .ok (.aload_n 0, 1) := by decide +kernel
theorem dX7_couples_6 : decode cX7_couples 6 = .ok (.getfield 43, 3) := by decide +kernel
theorem dX7_couples_9 : decode cX7_couples 9 = .ok (.iconst 1, 1) := by decide +kernel
theorem dX7_couples_10 : decode cX7_couples 10 = .ok (.iaload, 1) := by decide +kernel
theorem dX7_couples_11 : decode cX7_couples 11 = .ok (.if_icmp .ge 25, 3) := by decide +kernel
theorem dX7_couples_14 : decode cX7_couples 14 = .ok (.iload_n 2, 1) := by decide +kernel
theorem dX7_couples_15 : decode cX7_couples 15 = .ok (.aload_n 1, 1) := by decide +kernel
theorem dX7_couples_16 : decode cX7_couples 16 = .ok (.iload_n 3, 1) := by decide +kernel
theorem dX7_couples_17 : decode cX7_couples 17 = .ok (.invokestatic 261, 3) := by decide +kernel
theorem dX7_couples_20 : decode cX7_couples 20 = .ok (.ifCond .eq 7, 3) := by decide +kernel
theorem dX7_couples_23 : decode cX7_couples 23 = .ok (.iconst 1, 1) := by decide +kernel
theorem dX7_couples_24 : decode cX7_couples 24 = .ok (.goto 4, 3) := by decide +kernel
theorem dX7_couples_27 : decode cX7_couples 27 = .ok (.iconst 0, 1) := by decide +kernel
theorem dX7_couples_28 : decode cX7_couples 28 = .ok (.iadd, 1) := by decide +kernel
theorem dX7_couples_29 : decode cX7_couples 29 = .ok (.istore_n 2, 1) := by decide +kernel
theorem dX7_couples_30 : decode cX7_couples 30 = .ok (.iinc 3 1, 3) := by decide +kernel
theorem dX7_couples_33 : decode cX7_couples 33 = .ok (.goto (-29), 3) := by decide +kernel
theorem dX7_couples_36 : decode cX7_couples 36 = .ok (.iload_n 2, 1) := by decide +kernel
theorem dX7_couples_37 : decode cX7_couples 37 = .ok (.iconst 2, 1) := by decide +kernel
theorem dX7_couples_38 : decode cX7_couples 38 = .ok (.idiv, 1) := by decide +kernel
theorem dX7_couples_39 : decode cX7_couples 39 = .ok (.ireturn, 1) := by decide +kernel
theorem dX7_count_0 : decode cX7_count 0 = .ok (.aload_n 0, 1) := by decide +kernel
theorem dX7_count_1 : decode cX7_count 1 = .ok (.iconst 0, 1) := by decide +kernel
theorem dX7_count_2 : decode cX7_count 2 = .ok (.putfield 131, 3) := by decide +kernel
theorem dX7_count_5 : decode cX7_count 5 = .ok (.iload_n 1, 1) := by decide +kernel
theorem dX7_count_6 : decode cX7_count 6 = .ok (.iconst 0, 1) := by decide +kernel
theorem dX7_count_7 : decode cX7_count 7 = .ok (.bipush 6, 2) := by decide +kernel
theorem dX7_count_9 : decode cX7_count 9 = .ok (.invokestatic 134, 3) := by decide +kernel
theorem dX7_count_12 : decode cX7_count 12 = .ok (.ifCond .eq 10, 3) := by decide +kernel
theorem dX7_count_15 : decode cX7_count 15 = .ok (.aload_n 0, 1) := by decide +kernel
theorem dX7_count_16 : decode cX7_count 16 = .ok (.getfield 43, 3) := by decide +kernel
theorem dX7_count_19 : decode cX7_count 19 = .ok (.iload_n 1, 1) := by decide +kernel
theorem dX7_count_20 : decode cX7_count 20 = .ok (.iaload, 1) := by decide +kernel
theorem dX7_count_21 : decode cX7_count 21 = .ok (.ireturn, 1) := by decide +kernel
theorem dX7_count_22 : decode cX7_count 22 = .ok (.iload_n 1, 1) := by decide +kernel
theorem dX7_count_23 : decode cX7_count 23 = .ok (.tableswitch 66 7 12 #[37, 42, 51, 56, 56, 56], 37) := by decide +kernel
theorem dX7_count_60 : decode cX7_count 60 = .ok (.aload_n 0, 1) := by decide +kernel
theorem dX7_count_61 : decode cX7_count 61 = .ok (.getfield 248, 3) := by decide +kernel
theorem dX7_count_64 : decode cX7_count 64 = .ok (.ireturn, 1) := by decide +kernel
theorem dX7_count_65 : decode cX7_count 65 = .ok (.aload_n 0, 1) := by decide +kernel
theorem dX7_count_66 : decode cX7_count 66 = .ok (.aload_n 0, 1) := by decide +kernel
theorem dX7_count_67 : decode cX7_count 67 = .ok (.getfield 77, 3) := by decide +kernel
theorem dX7_count_70 : decode cX7_count 70 = .ok (.invokevirtual 295, 3) := by decide +kernel
theorem dX7_count_73 : decode cX7_count 73 = .ok (.ireturn, 1) := by decide +kernel
theorem dX7_count_74 : decode cX7_count 74 = .ok (.aload_n 0, 1) := by decide +kernel
theorem dX7_count_75 : decode cX7_count 75 = .ok (.getfield 138, 3) := by decide +kernel
theorem dX7_count_78 : decode cX7_count 78 = .ok (.ireturn, 1) := by decide +kernel
theorem dX7_count_79 : decode cX7_count 79 = .ok (.aload_n 0, 1) := by decide +kernel
theorem dX7_count_80 : decode cX7_count 80 = .ok (.getfield 67, 3) := by decide +kernel
theorem dX7_count_83 : decode cX7_count 83 = .ok (.iload_n 1, 1) := by decide +kernel
theorem dX7_count_84 : decode cX7_count 84 = .ok (.bipush 10, 2) := by decide +kernel
theorem dX7_count_86 : decode cX7_count 86 = .ok (.isub, 1) := by decide +kernel
theorem dX7_count_87 : decode cX7_count 87 = .ok (.iaload, 1) := by decide +kernel
theorem dX7_count_88 : decode cX7_count 88 = .ok (.ireturn, 1) := by decide +kernel
theorem dX7_count_89 : decode cX7_count 89 = .ok (.aload_n 0, 1) := by decide +kernel
theorem dX7_count_90 : decode cX7_count 90 = .ok (.iconst 1, 1) := by decide +kernel
theorem dX7_count_91 : decode cX7_count 91 = .ok (.invokevirtual 235, 3) := by decide +kernel
theorem dX7_count_94 : decode cX7_count 94 = .ok (.ireturn, 1) := by decide +kernel
theorem dX7_lamp_0 : decode cX7_lamp 0 = .ok (.aload_n 0, 1) := by decide +kernel
theorem dX7_lamp_1 : decode cX7_lamp 1 = .ok (.iconst 0, 1) := by decide +kernel
theorem dX7_lamp_2 : decode cX7_lamp 2 = .ok (.putfield 131, 3) := by decide +kernel
theorem dX7_lamp_5 : decode cX7_lamp 5 = .ok (.aload_n 0, 1) := by decide +kernel
theorem dX7_lamp_6 : decode cX7_lamp 6 = .ok (.iload_n 1, 1) := by decide +kernel
theorem dX7_lamp_7 : decode cX7_lamp 7 = .ok (.invokevirtual 299, 3) := by decide +kernel
theorem dX7_lamp_10 : decode cX7_lamp 10 = .ok (.ifCond .ne 9, 3) := by decide +kernel
theorem dX7_lamp_13 : decode cX7_lamp 13 = .ok (.aload_n 0, 1) := by decide +kernel
theorem dX7_lamp_14 : decode cX7_lamp 14 = .ok (.iconst 1, 1) := by decide +kernel
theorem dX7_lamp_15 : decode cX7_lamp 15 = .ok (.invokevirtual 235, 3) := by decide +kernel
theorem dX7_lamp_18 : decode cX7_lamp 18 = .ok (.ireturn, 1) := by decide +kernel
theorem dX7_lamp_19 : decode cX7_lamp 19 = .ok (.iload_n 2, 1) := by decide +kernel
theorem dX7_lamp_20 : decode cX7_lamp 20 = .ok (.iconst 2, 1) := by decide +kernel
theorem dX7_lamp_21 : decode cX7_lamp 21 = .ok (.iconst 4, 1) := by decide +kernel
theorem dX7_lamp_22 : decode cX7_lamp 22 = .ok (.invokestatic 134, 3) := by decide +kernel
theorem dX7_lamp_25 : decode cX7_lamp 25 = .ok (.ifCond .eq 16, 3) := by decide +kernel
theorem dX7_lamp_28 : decode cX7_lamp 28 = .ok (.aload_n 0, 1) := by decide +kernel
theorem dX7_lamp_29 : decode cX7_lamp 29 = .ok (.getfield 77, 3) := by decide +kernel
theorem dX7_lamp_32 : decode cX7_lamp 32 = .ok (.iconst 3, 1) := by decide +kernel
theorem dX7_lamp_33 : decode cX7_lamp 33 = .ok (.iload_n 1, 1) := by decide +kernel
theorem dX7_lamp_34 : decode cX7_lamp 34 = .ok (.imul, 1) := by decide +kernel
theorem dX7_lamp_35 : decode cX7_lamp 35 = .ok (.iload_n 2, 1) := by decide +kernel
theorem dX7_lamp_36 : decode cX7_lamp 36 = .ok (.iadd, 1) := by decide +kernel
theorem dX7_lamp_37 : decode cX7_lamp 37 = .ok (.iconst 2, 1) := by decide +kernel
theorem dX7_lamp_38 : decode cX7_lamp 38 = .ok (.isub, 1) := by decide +kernel
theorem dX7_lamp_39 : decode cX7_lamp 39 = .ok (.iaload, 1) := by decide +kernel
theorem dX7_lamp_40 : decode cX7_lamp 40 = .ok (.ireturn, 1) := by decide +kernel
theorem dX7_lamp_41 : decode cX7_lamp 41 = .ok (.iload_n 2, 1) := by decide +kernel
theorem dX7_lamp_42 : decode cX7_lamp 42 = .ok (.ifCond .ne 12, 3) := by decide +kernel
theorem dX7_lamp_45 : decode cX7_lamp 45 = .ok (.aload_n 0, 1) := by decide +kernel
theorem dX7_lamp_46 : decode cX7_lamp 46 = .ok (.getfield 46, 3) := by decide +kernel
theorem dX7_lamp_49 : decode cX7_lamp 49 = .ok (.iload_n 1, 1) := by decide +kernel
theorem dX7_lamp_50 : decode cX7_lamp 50 = .ok (.iaload, 1) := by decide +kernel
theorem dX7_lamp_51 : decode cX7_lamp 51 = .ok (.goto 72, 3) := by decide +kernel
theorem dX7_lamp_54 : decode cX7_lamp 54 = .ok (.iload_n 2, 1) := by decide +kernel
theorem dX7_lamp_55 : decode cX7_lamp 55 = .ok (.iconst 1, 1) := by decide +kernel
theorem dX7_lamp_56 : decode cX7_lamp 56 = .ok (.if_icmp .ne 12, 3) := by decide +kernel
theorem dX7_lamp_59 : decode cX7_lamp 59 = .ok (.aload_n 0, 1) := by decide +kernel
theorem dX7_lamp_60 : decode cX7_lamp 60 = .ok (.getfield 49, 3) := by decide +kernel
theorem dX7_lamp_63 : decode cX7_lamp 63 = .ok (.iload_n 1, 1) := by decide +kernel
theorem dX7_lamp_64 : decode cX7_lamp 64 = .ok (.iaload, 1) := by decide +kernel
theorem dX7_lamp_65 : decode cX7_lamp 65 = .ok (.goto 58, 3) := by decide +kernel
theorem dX7_lamp_68 : decode cX7_lamp 68 = .ok (.iload_n 2, 1) := by decide +kernel
theorem dX7_lamp_69 : decode cX7_lamp 69 = .ok (.iconst 5, 1) := by decide +kernel
theorem dX7_lamp_70 : decode cX7_lamp 70 = .ok (.if_icmp .ne 12, 3) := by decide +kernel
theorem dX7_lamp_73 : decode cX7_lamp 73 = .ok (.aload_n 0, 1) := by decide +kernel
theorem dX7_lamp_74 : decode cX7_lamp 74 = .ok (.getfield 55, 3) := by decide +kernel
theorem dX7_lamp_77 : decode cX7_lamp 77 = .ok (.iload_n 1, 1) := by decide +kernel
theorem dX7_lamp_78 : decode cX7_lamp 78 = .ok (.iaload, 1) := by decide +kernel
theorem dX7_lamp_79 : decode cX7_lamp 79 = .ok (.goto 44, 3) := by decide +kernel
theorem dX7_lamp_82 : decode cX7_lamp 82 = .ok (.iload_n 2, 1) := by decide +kernel
theorem dX7_lamp_83 : decode cX7_lamp 83 = .ok (.bipush 6, 2) := by decide +kernel
theorem dX7_lamp_85 : decode cX7_lamp 85 = .ok (.if_icmp .ne 15, 3) := by decide +kernel
theorem dX7_lamp_88 : decode cX7_lamp 88 = .ok (.aload_n 0, 1) := by decide +kernel
theorem dX7_lamp_89 : decode cX7_lamp 89 = .ok (.getfield 77, 3) := by decide +kernel
theorem dX7_lamp_92 : decode cX7_lamp 92 = .ok (.bipush 18, 2) := by decide +kernel
theorem dX7_lamp_94 : decode cX7_lamp 94 = .ok (.iload_n 1, 1) := by decide +kernel
theorem dX7_lamp_95 : decode cX7_lamp 95 = .ok (.iadd, 1) := by decide +kernel
theorem dX7_lamp_96 : decode cX7_lamp 96 = .ok (.iaload, 1) := by decide +kernel
theorem dX7_lamp_97 : decode cX7_lamp 97 = .ok (.goto 26, 3) := by decide +kernel
theorem dX7_lamp_100 : decode cX7_lamp 100 = .ok (.iload_n 2, 1) := by decide +kernel
theorem dX7_lamp_101 : decode cX7_lamp 101 = .ok (.bipush 7, 2) := by decide +kernel
theorem dX7_lamp_103 : decode cX7_lamp 103 = .ok (.if_icmp .ne 15, 3) := by decide +kernel
theorem dX7_lamp_106 : decode cX7_lamp 106 = .ok (.aload_n 0, 1) := by decide +kernel
theorem dX7_lamp_107 : decode cX7_lamp 107 = .ok (.getfield 77, 3) := by decide +kernel
theorem dX7_lamp_110 : decode cX7_lamp 110 = .ok (.bipush 24, 2) := by decide +kernel
theorem dX7_lamp_112 : decode cX7_lamp 112 = .ok (.iload_n 1, 1) := by decide +kernel
theorem dX7_lamp_113 : decode cX7_lamp 113 = .ok (.iadd, 1) := by decide +kernel
theorem dX7_lamp_114 : decode cX7_lamp 114 = .ok (.iaload, 1) := by decide +kernel
theorem dX7_lamp_115 : decode cX7_lamp 115 = .ok (.goto 8, 3) := by decide +kernel
theorem dX7_lamp_118 : decode cX7_lamp 118 = .ok (.aload_n 0, 1) := by decide +kernel
theorem dX7_lamp_119 : decode cX7_lamp 119 = .ok (.iconst 1, 1) := by decide +kernel
theorem dX7_lamp_120 : decode cX7_lamp 120 = .ok (.invokevirtual 235, 3) := by decide +kernel
theorem dX7_lamp_123 : decode cX7_lamp 123 = .ok (.ireturn, 1) := by decide +kernel
theorem dX7_far_0 : decode cX7_far 0 = .ok (.aload_n 0, 1) := by decide +kernel
theorem dX7_far_1 : decode cX7_far 1 = .ok (.iconst 0, 1) := by decide +kernel
theorem dX7_far_2 : decode cX7_far 2 = .ok (.putfield 131, 3) := by decide +kernel
theorem dX7_far_5 : decode cX7_far 5 = .ok (.aload_n 0, 1) := by decide +kernel
theorem dX7_far_6 : decode cX7_far 6 = .ok (.iload_n 1, 1) := by decide +kernel
theorem dX7_far_7 : decode cX7_far 7 = .ok (.invokevirtual 299, 3) := by decide +kernel
theorem dX7_far_10 : decode cX7_far 10 = .ok (.ifCond .eq 23, 3) := by decide +kernel
theorem dX7_far_13 : decode cX7_far 13 = .ok (.aload_n 0, 1) := by decide +kernel
theorem dX7_far_14 : decode cX7_far 14 = .ok (.iload_n 2, 1) := by decide +kernel
theorem dX7_far_15 : decode cX7_far 15 = .ok (.invokevirtual 299, 3) := by decide +kernel
theorem dX7_far_18 : decode cX7_far 18 = .ok (.ifCond .eq 15, 3) := by decide +kernel
theorem dX7_far_21 : decode cX7_far 21 = .ok (.aload_n 0, 1) := by decide +kernel
theorem dX7_far_22 : decode cX7_far 22 = .ok (.getfield 77, 3) := by decide +kernel
theorem dX7_far_25 : decode cX7_far 25 = .ok (.iload_n 1, 1) := by decide +kernel
theorem dX7_far_26 : decode cX7_far 26 = .ok (.iload_n 2, 1) := by decide +kernel
theorem dX7_far_27 : decode cX7_far 27 = .ok (.invokestatic 265, 3) := by decide +kernel
theorem dX7_far_30 : decode cX7_far 30 = .ok (.goto 8, 3) := by decide +kernel
theorem dX7_far_33 : decode cX7_far 33 = .ok (.aload_n 0, 1) := by decide +kernel
theorem dX7_far_34 : decode cX7_far 34 = .ok (.iconst 1, 1) := by decide +kernel
theorem dX7_far_35 : decode cX7_far 35 = .ok (.invokevirtual 235, 3) := by decide +kernel
theorem dX7_far_38 : decode cX7_far 38 = .ok (.ireturn, 1) := by decide +kernel
theorem dX7_outOf_0 : decode cX7_outOf 0 = .ok (.iconst 0, 1) := by decide +kernel
theorem dX7_outOf_1 : decode cX7_outOf 1 = .ok (.istore_n 2, 1) := by decide +kernel
theorem dX7_outOf_2 : decode cX7_outOf 2 = .ok (.iconst 0, 1) := by decide +kernel
theorem dX7_outOf_3 : decode cX7_outOf 3 = .ok (.istore_n 3, 1) := by decide +kernel
theorem dX7_outOf_4 : decode cX7_outOf 4 = .ok (.iload_n 3, 1) := by decide +kernel
theorem dX7_outOf_5 : decode cX7_outOf 5 = .ok (.aload_n 0, 1) := by decide +kernel
theorem dX7_outOf_6 : decode cX7_outOf 6 = .ok (.getfield 43, 3) := by decide +kernel
theorem dX7_outOf_9 : decode cX7_outOf 9 = .ok (.iconst 1, 1) := by decide +kernel
theorem dX7_outOf_10 : decode cX7_outOf 10 = .ok (.iaload, 1) := by decide +kernel
theorem dX7_outOf_11 : decode cX7_outOf 11 = .ok (.if_icmp .ge 27, 3) := by decide +kernel
theorem dX7_outOf_14 : decode cX7_outOf 14 = .ok (.iload_n 2, 1) := by decide +kernel
theorem dX7_outOf_15 : decode cX7_outOf 15 = .ok (.aload_n 1, 1) := by decide +kernel
theorem dX7_outOf_16 : decode cX7_outOf 16 = .ok (.iload_n 3, 1) := by decide +kernel
theorem dX7_outOf_17 : decode cX7_outOf 17 = .ok (.invokestatic 261, 3) := by decide +kernel
theorem dX7_outOf_20 : decode cX7_outOf 20 = .ok (.ifCond .eq 9, 3) := by decide +kernel
theorem dX7_outOf_23 : decode cX7_outOf 23 = .ok (.iconst 1, 1) := by decide +kernel
theorem dX7_outOf_24 : decode cX7_outOf 24 = .ok (.iload_n 3, 1) := by decide +kernel
theorem dX7_outOf_25 : decode cX7_outOf 25 = .ok (.ishl, 1) := by decide +kernel
theorem dX7_outOf_26 : decode cX7_outOf 26 = .ok (.goto 4, 3) := by decide +kernel
theorem dX7_outOf_29 : decode cX7_outOf 29 = .ok (.iconst 0, 1) := by decide +kernel
theorem dX7_outOf_30 : decode cX7_outOf 30 = .ok (.ior, 1) := by decide +kernel
theorem dX7_outOf_31 : decode cX7_outOf 31 = .ok (.istore_n 2, 1) := by decide +kernel
theorem dX7_outOf_32 : decode cX7_outOf 32 = .ok (.iinc 3 1, 3) := by decide +kernel
theorem dX7_outOf_35 : decode cX7_outOf 35 = .ok (.goto (-31), 3) := by decide +kernel
theorem dX7_outOf_38 : decode cX7_outOf 38 = .ok (.iload_n 2, 1) := by decide +kernel
theorem dX7_outOf_39 : decode cX7_outOf 39 = .ok (.ireturn, 1) := by decide +kernel
theorem dX7_nights_0 : decode cX7_nights 0 = .ok (.aload_n 0, 1) := by decide +kernel
theorem dX7_nights_1 : decode cX7_nights 1 = .ok (.iconst 0, 1) := by decide +kernel
theorem dX7_nights_2 : decode cX7_nights 2 = .ok (.putfield 131, 3) := by decide +kernel
theorem dX7_nights_5 : decode cX7_nights 5 = .ok (.iload_n 1, 1) := by decide +kernel
theorem dX7_nights_6 : decode cX7_nights 6 = .ok (.iconst 0, 1) := by decide +kernel
theorem dX7_nights_7 : decode cX7_nights 7 = .ok (.bipush 99, 2) := by decide +kernel
theorem dX7_nights_9 : decode cX7_nights 9 = .ok (.invokestatic 134, 3) := by decide +kernel
theorem dX7_nights_12 : decode cX7_nights 12 = .ok (.ifCond .ne 9, 3) := by decide +kernel
theorem dX7_nights_15 : decode cX7_nights 15 = .ok (.aload_n 0, 1) := by decide +kernel
theorem dX7_nights_16 : decode cX7_nights 16 = .ok (.iconst 1, 1) := by decide +kernel
theorem dX7_nights_17 : decode cX7_nights 17 = .ok (.invokevirtual 235, 3) := by decide +kernel
theorem dX7_nights_20 : decode cX7_nights 20 = .ok (.ireturn, 1) := by decide +kernel
theorem dX7_nights_21 : decode cX7_nights 21 = .ok (.aload_n 0, 1) := by decide +kernel
theorem dX7_nights_22 : decode cX7_nights 22 = .ok (.getfield 248, 3) := by decide +kernel
theorem dX7_nights_25 : decode cX7_nights 25 = .ok (.iload_n 1, 1) := by decide +kernel
theorem dX7_nights_26 : decode cX7_nights 26 = .ok (.iadd, 1) := by decide +kernel
theorem dX7_nights_27 : decode cX7_nights 27 = .ok (.aload_n 0, 1) := by decide +kernel
theorem dX7_nights_28 : decode cX7_nights 28 = .ok (.getfield 43, 3) := by decide +kernel
theorem dX7_nights_31 : decode cX7_nights 31 = .ok (.iconst 5, 1) := by decide +kernel
theorem dX7_nights_32 : decode cX7_nights 32 = .ok (.iaload, 1) := by decide +kernel
theorem dX7_nights_33 : decode cX7_nights 33 = .ok (.if_icmp .le 15, 3) := by decide +kernel
theorem dX7_nights_36 : decode cX7_nights 36 = .ok (.aload_n 0, 1) := by decide +kernel
theorem dX7_nights_37 : decode cX7_nights 37 = .ok (.getfield 67, 3) := by decide +kernel
theorem dX7_nights_40 : decode cX7_nights 40 = .ok (.iconst 2, 1) := by decide +kernel
theorem dX7_nights_41 : decode cX7_nights 41 = .ok (.dup2, 1) := by decide +kernel
theorem dX7_nights_42 : decode cX7_nights 42 = .ok (.iaload, 1) := by decide +kernel
theorem dX7_nights_43 : decode cX7_nights 43 = .ok (.iconst 1, 1) := by decide +kernel
theorem dX7_nights_44 : decode cX7_nights 44 = .ok (.iadd, 1) := by decide +kernel
theorem dX7_nights_45 : decode cX7_nights 45 = .ok (.iastore, 1) := by decide +kernel
theorem dX7_nights_46 : decode cX7_nights 46 = .ok (.iconst (-1), 1) := by decide +kernel
theorem dX7_nights_47 : decode cX7_nights 47 = .ok (.ireturn, 1) := by decide +kernel
theorem dX7_nights_48 : decode cX7_nights 48 = .ok (.iconst 0, 1) := by decide +kernel
theorem dX7_nights_49 : decode cX7_nights 49 = .ok (.istore_n 2, 1) := by decide +kernel
theorem dX7_nights_50 : decode cX7_nights 50 = .ok (.iconst 0, 1) := by decide +kernel
theorem dX7_nights_51 : decode cX7_nights 51 = .ok (.istore_n 3, 1) := by decide +kernel
theorem dX7_nights_52 : decode cX7_nights 52 = .ok (.iload_n 3, 1) := by decide +kernel
theorem dX7_nights_53 : decode cX7_nights 53 = .ok (.iload_n 1, 1) := by decide +kernel
theorem dX7_nights_54 : decode cX7_nights 54 = .ok (.if_icmp .ge 132, 3) := by decide +kernel
theorem dX7_nights_57 : decode cX7_nights 57 = .ok (.iconst 0, 1) := by decide +kernel
theorem dX7_nights_58 : decode cX7_nights 58 = .ok (.istore 4, 2) := by decide +kernel
theorem dX7_nights_60 : decode cX7_nights 60 = .ok (.iload 4, 2) := by decide +kernel
theorem dX7_nights_62 : decode cX7_nights 62 = .ok (.bipush 18, 2) := by decide +kernel
theorem dX7_nights_64 : decode cX7_nights 64 = .ok (.if_icmp .ge 31, 3) := by decide +kernel
theorem dX7_nights_67 : decode cX7_nights 67 = .ok (.aload_n 0, 1) := by decide +kernel
theorem dX7_nights_68 : decode cX7_nights 68 = .ok (.getfield 92, 3) := by decide +kernel
theorem dX7_nights_71 : decode cX7_nights 71 = .ok (.bipush 18, 2) := by decide +kernel
theorem dX7_nights_73 : decode cX7_nights 73 = .ok (.aload_n 0, 1) := by decide +kernel
theorem dX7_nights_74 : decode cX7_nights 74 = .ok (.getfield 248, 3) := by decide +kernel
theorem dX7_nights_77 : decode cX7_nights 77 = .ok (.imul, 1) := by decide +kernel
theorem dX7_nights_78 : decode cX7_nights 78 = .ok (.iload 4, 2) := by decide +kernel
theorem dX7_nights_80 : decode cX7_nights 80 = .ok (.iadd, 1) := by decide +kernel
theorem dX7_nights_81 : decode cX7_nights 81 = .ok (.aload_n 0, 1) := by decide +kernel
theorem dX7_nights_82 : decode cX7_nights 82 = .ok (.getfield 77, 3) := by decide +kernel
theorem dX7_nights_85 : decode cX7_nights 85 = .ok (.iload 4, 2) := by decide +kernel
theorem dX7_nights_87 : decode cX7_nights 87 = .ok (.iaload, 1) := by decide +kernel
theorem dX7_nights_88 : decode cX7_nights 88 = .ok (.iastore, 1) := by decide +kernel
theorem dX7_nights_89 : decode cX7_nights 89 = .ok (.iinc 4 1, 3) := by decide +kernel
theorem dX7_nights_92 : decode cX7_nights 92 = .ok (.goto (-32), 3) := by decide +kernel
theorem dX7_nights_95 : decode cX7_nights 95 = .ok (.aload_n 0, 1) := by decide +kernel
theorem dX7_nights_96 : decode cX7_nights 96 = .ok (.getfield 98, 3) := by decide +kernel
theorem dX7_nights_99 : decode cX7_nights 99 = .ok (.aload_n 0, 1) := by decide +kernel
theorem dX7_nights_100 : decode cX7_nights 100 = .ok (.getfield 248, 3) := by decide +kernel
theorem dX7_nights_103 : decode cX7_nights 103 = .ok (.aload_n 0, 1) := by decide +kernel
theorem dX7_nights_104 : decode cX7_nights 104 = .ok (.aload_n 0, 1) := by decide +kernel
theorem dX7_nights_105 : decode cX7_nights 105 = .ok (.getfield 77, 3) := by decide +kernel
theorem dX7_nights_108 : decode cX7_nights 108 = .ok (.invokevirtual 302, 3) := by decide +kernel
theorem dX7_nights_111 : decode cX7_nights 111 = .ok (.iastore, 1) := by decide +kernel
theorem dX7_nights_112 : decode cX7_nights 112 = .ok (.iload_n 2, 1) := by decide +kernel
theorem dX7_nights_113 : decode cX7_nights 113 = .ok (.aload_n 0, 1) := by decide +kernel
theorem dX7_nights_114 : decode cX7_nights 114 = .ok (.aload_n 0, 1) := by decide +kernel
theorem dX7_nights_115 : decode cX7_nights 115 = .ok (.getfield 77, 3) := by decide +kernel
theorem dX7_nights_118 : decode cX7_nights 118 = .ok (.aload_n 0, 1) := by decide +kernel
theorem dX7_nights_119 : decode cX7_nights 119 = .ok (.getfield 248, 3) := by decide +kernel
theorem dX7_nights_122 : decode cX7_nights 122 = .ok (.aload_n 0, 1) := by decide +kernel
theorem dX7_nights_123 : decode cX7_nights 123 = .ok (.getfield 55, 3) := by decide +kernel
theorem dX7_nights_126 : decode cX7_nights 126 = .ok (.iconst 0, 1) := by decide +kernel
theorem dX7_nights_127 : decode cX7_nights 127 = .ok (.invokevirtual 305, 3) := by decide +kernel
theorem dX7_nights_130 : decode cX7_nights 130 = .ok (.iadd, 1) := by decide +kernel
theorem dX7_nights_131 : decode cX7_nights 131 = .ok (.istore_n 2, 1) := by decide +kernel
theorem dX7_nights_132 : decode cX7_nights 132 = .ok (.aload_n 0, 1) := by decide +kernel
theorem dX7_nights_133 : decode cX7_nights 133 = .ok (.dup, 1) := by decide +kernel
theorem dX7_nights_134 : decode cX7_nights 134 = .ok (.getfield 248, 3) := by decide +kernel
theorem dX7_nights_137 : decode cX7_nights 137 = .ok (.iconst 1, 1) := by decide +kernel
theorem dX7_nights_138 : decode cX7_nights 138 = .ok (.iadd, 1) := by decide +kernel
theorem dX7_nights_139 : decode cX7_nights 139 = .ok (.putfield 248, 3) := by decide +kernel
theorem dX7_nights_142 : decode cX7_nights 142 = .ok (.iconst 0, 1) := by decide +kernel
theorem dX7_nights_143 : decode cX7_nights 143 = .ok (.istore 4, 2) := by decide +kernel
theorem dX7_nights_145 : decode cX7_nights 145 = .ok (.iload 4, 2) := by decide +kernel
theorem dX7_nights_147 : decode cX7_nights 147 = .ok (.bipush 18, 2) := by decide +kernel
theorem dX7_nights_149 : decode cX7_nights 149 = .ok (.if_icmp .ge 31, 3) := by decide +kernel
theorem dX7_nights_152 : decode cX7_nights 152 = .ok (.aload_n 0, 1) := by decide +kernel
theorem dX7_nights_153 : decode cX7_nights 153 = .ok (.getfield 95, 3) := by decide +kernel
theorem dX7_nights_156 : decode cX7_nights 156 = .ok (.bipush 18, 2) := by decide +kernel
theorem dX7_nights_158 : decode cX7_nights 158 = .ok (.aload_n 0, 1) := by decide +kernel
theorem dX7_nights_159 : decode cX7_nights 159 = .ok (.getfield 248, 3) := by decide +kernel
theorem dX7_nights_162 : decode cX7_nights 162 = .ok (.imul, 1) := by decide +kernel
theorem dX7_nights_163 : decode cX7_nights 163 = .ok (.iload 4, 2) := by decide +kernel
theorem dX7_nights_165 : decode cX7_nights 165 = .ok (.iadd, 1) := by decide +kernel
theorem dX7_nights_166 : decode cX7_nights 166 = .ok (.aload_n 0, 1) := by decide +kernel
theorem dX7_nights_167 : decode cX7_nights 167 = .ok (.getfield 77, 3) := by decide +kernel
theorem dX7_nights_170 : decode cX7_nights 170 = .ok (.iload 4, 2) := by decide +kernel
theorem dX7_nights_172 : decode cX7_nights 172 = .ok (.iaload, 1) := by decide +kernel
theorem dX7_nights_173 : decode cX7_nights 173 = .ok (.iastore, 1) := by decide +kernel
theorem dX7_nights_174 : decode cX7_nights 174 = .ok (.iinc 4 1, 3) := by decide +kernel
theorem dX7_nights_177 : decode cX7_nights 177 = .ok (.goto (-32), 3) := by decide +kernel
theorem dX7_nights_180 : decode cX7_nights 180 = .ok (.iinc 3 1, 3) := by decide +kernel
theorem dX7_nights_183 : decode cX7_nights 183 = .ok (.goto (-131), 3) := by decide +kernel
theorem dX7_nights_186 : decode cX7_nights 186 = .ok (.iload_n 2, 1) := by decide +kernel
theorem dX7_nights_187 : decode cX7_nights 187 = .ok (.ireturn, 1) := by decide +kernel
theorem dX7_undo_0 : decode cX7_undo 0 = .ok (.aload_n 0, 1) := by decide +kernel
theorem dX7_undo_1 : decode cX7_undo 1 = .ok (.iconst 0, 1) := by decide +kernel
theorem dX7_undo_2 : decode cX7_undo 2 = .ok (.putfield 131, 3) := by decide +kernel
theorem dX7_undo_5 : decode cX7_undo 5 = .ok (.iload_n 1, 1) := by decide +kernel
theorem dX7_undo_6 : decode cX7_undo 6 = .ok (.ifCond .ge 9, 3) := by decide +kernel
theorem dX7_undo_9 : decode cX7_undo 9 = .ok (.aload_n 0, 1) := by decide +kernel
theorem dX7_undo_10 : decode cX7_undo 10 = .ok (.iconst 1, 1) := by decide +kernel
theorem dX7_undo_11 : decode cX7_undo 11 = .ok (.invokevirtual 235, 3) := by decide +kernel
theorem dX7_undo_14 : decode cX7_undo 14 = .ok (.ireturn, 1) := by decide +kernel
theorem dX7_undo_15 : decode cX7_undo 15 = .ok (.iload_n 1, 1) := by decide +kernel
theorem dX7_undo_16 : decode cX7_undo 16 = .ok (.aload_n 0, 1) := by decide +kernel
theorem dX7_undo_17 : decode cX7_undo 17 = .ok (.getfield 248, 3) := by decide +kernel
theorem dX7_undo_20 : decode cX7_undo 20 = .ok (.invokestatic 167, 3) := by decide +kernel
theorem dX7_undo_23 : decode cX7_undo 23 = .ok (.istore_n 2, 1) := by decide +kernel
theorem dX7_undo_24 : decode cX7_undo 24 = .ok (.iload_n 2, 1) := by decide +kernel
theorem dX7_undo_25 : decode cX7_undo 25 = .ok (.ifCond .ne 5, 3) := by decide +kernel
theorem dX7_undo_28 : decode cX7_undo 28 = .ok (.iconst 0, 1) := by decide +kernel
theorem dX7_undo_29 : decode cX7_undo 29 = .ok (.ireturn, 1) := by decide +kernel
theorem dX7_undo_30 : decode cX7_undo 30 = .ok (.aload_n 0, 1) := by decide +kernel
theorem dX7_undo_31 : decode cX7_undo 31 = .ok (.dup, 1) := by decide +kernel
theorem dX7_undo_32 : decode cX7_undo 32 = .ok (.getfield 248, 3) := by decide +kernel
theorem dX7_undo_35 : decode cX7_undo 35 = .ok (.iload_n 2, 1) := by decide +kernel
theorem dX7_undo_36 : decode cX7_undo 36 = .ok (.isub, 1) := by decide +kernel
theorem dX7_undo_37 : decode cX7_undo 37 = .ok (.putfield 248, 3) := by decide +kernel
theorem dX7_undo_40 : decode cX7_undo 40 = .ok (.iconst 0, 1) := by decide +kernel
theorem dX7_undo_41 : decode cX7_undo 41 = .ok (.istore_n 3, 1) := by decide +kernel
theorem dX7_undo_42 : decode cX7_undo 42 = .ok (.iload_n 3, 1) := by decide +kernel
theorem dX7_undo_43 : decode cX7_undo 43 = .ok (.bipush 18, 2) := by decide +kernel
theorem dX7_undo_45 : decode cX7_undo 45 = .ok (.if_icmp .ge 29, 3) := by decide +kernel
theorem dX7_undo_48 : decode cX7_undo 48 = .ok (.aload_n 0, 1) := by decide +kernel
theorem dX7_undo_49 : decode cX7_undo 49 = .ok (.getfield 77, 3) := by decide +kernel
theorem dX7_undo_52 : decode cX7_undo 52 = .ok (.iload_n 3, 1) := by decide +kernel
theorem dX7_undo_53 : decode cX7_undo 53 = .ok (.aload_n 0, 1) := by decide +kernel
theorem dX7_undo_54 : decode cX7_undo 54 = .ok (.getfield 95, 3) := by decide +kernel
theorem dX7_undo_57 : decode cX7_undo 57 = .ok (.bipush 18, 2) := by decide +kernel
theorem dX7_undo_59 : decode cX7_undo 59 = .ok (.aload_n 0, 1) := by decide +kernel
theorem dX7_undo_60 : decode cX7_undo 60 = .ok (.getfield 248, 3) := by decide +kernel
theorem dX7_undo_63 : decode cX7_undo 63 = .ok (.imul, 1) := by decide +kernel
theorem dX7_undo_64 : decode cX7_undo 64 = .ok (.iload_n 3, 1) := by decide +kernel
theorem dX7_undo_65 : decode cX7_undo 65 = .ok (.iadd, 1) := by decide +kernel
theorem dX7_undo_66 : decode cX7_undo 66 = .ok (.iaload, 1) := by decide +kernel
theorem dX7_undo_67 : decode cX7_undo 67 = .ok (.iastore, 1) := by decide +kernel
theorem dX7_undo_68 : decode cX7_undo 68 = .ok (.iinc 3 1, 3) := by decide +kernel
theorem dX7_undo_71 : decode cX7_undo 71 = .ok (.goto (-29), 3) := by decide +kernel
theorem dX7_undo_74 : decode cX7_undo 74 = .ok (.iconst 0, 1) := by decide +kernel
theorem dX7_undo_75 : decode cX7_undo 75 = .ok (.istore_n 3, 1) := by decide +kernel
theorem dX7_undo_76 : decode cX7_undo 76 = .ok (.iload_n 3, 1) := by decide +kernel
theorem dX7_undo_77 : decode cX7_undo 77 = .ok (.bipush 6, 2) := by decide +kernel
theorem dX7_undo_79 : decode cX7_undo 79 = .ok (.if_icmp .ge 48, 3) := by decide +kernel
theorem dX7_undo_82 : decode cX7_undo 82 = .ok (.aload_n 0, 1) := by decide +kernel
theorem dX7_undo_83 : decode cX7_undo 83 = .ok (.getfield 77, 3) := by decide +kernel
theorem dX7_undo_86 : decode cX7_undo 86 = .ok (.bipush 24, 2) := by decide +kernel
theorem dX7_undo_88 : decode cX7_undo 88 = .ok (.iload_n 3, 1) := by decide +kernel
theorem dX7_undo_89 : decode cX7_undo 89 = .ok (.iadd, 1) := by decide +kernel
theorem dX7_undo_90 : decode cX7_undo 90 = .ok (.iaload, 1) := by decide +kernel
theorem dX7_undo_91 : decode cX7_undo 91 = .ok (.aload_n 0, 1) := by decide +kernel
theorem dX7_undo_92 : decode cX7_undo 92 = .ok (.getfield 248, 3) := by decide +kernel
theorem dX7_undo_95 : decode cX7_undo 95 = .ok (.if_icmp .ge 6, 3) := by decide +kernel
theorem dX7_undo_98 : decode cX7_undo 98 = .ok (.goto 23, 3) := by decide +kernel
theorem dX7_undo_101 : decode cX7_undo 101 = .ok (.aload_n 0, 1) := by decide +kernel
theorem dX7_undo_102 : decode cX7_undo 102 = .ok (.getfield 77, 3) := by decide +kernel
theorem dX7_undo_105 : decode cX7_undo 105 = .ok (.bipush 24, 2) := by decide +kernel
theorem dX7_undo_107 : decode cX7_undo 107 = .ok (.iload_n 3, 1) := by decide +kernel
theorem dX7_undo_108 : decode cX7_undo 108 = .ok (.iadd, 1) := by decide +kernel
theorem dX7_undo_109 : decode cX7_undo 109 = .ok (.iconst (-1), 1) := by decide +kernel
theorem dX7_undo_110 : decode cX7_undo 110 = .ok (.iastore, 1) := by decide +kernel
theorem dX7_undo_111 : decode cX7_undo 111 = .ok (.aload_n 0, 1) := by decide +kernel
theorem dX7_undo_112 : decode cX7_undo 112 = .ok (.getfield 77, 3) := by decide +kernel
theorem dX7_undo_115 : decode cX7_undo 115 = .ok (.bipush 18, 2) := by decide +kernel
theorem dX7_undo_117 : decode cX7_undo 117 = .ok (.iload_n 3, 1) := by decide +kernel
theorem dX7_undo_118 : decode cX7_undo 118 = .ok (.iadd, 1) := by decide +kernel
theorem dX7_undo_119 : decode cX7_undo 119 = .ok (.iconst (-1), 1) := by decide +kernel
theorem dX7_undo_120 : decode cX7_undo 120 = .ok (.iastore, 1) := by decide +kernel
theorem dX7_undo_121 : decode cX7_undo 121 = .ok (.iinc 3 1, 3) := by decide +kernel
theorem dX7_undo_124 : decode cX7_undo 124 = .ok (.goto (-48), 3) := by decide +kernel
theorem dX7_undo_127 : decode cX7_undo 127 = .ok (.iload_n 2, 1) := by decide +kernel
theorem dX7_undo_128 : decode cX7_undo 128 = .ok (.ireturn, 1) := by decide +kernel
theorem dX7_book_0 : decode cX7_book 0 = .ok (.aload_n 0, 1) := by decide +kernel
theorem dX7_book_1 : decode cX7_book 1 = .ok (.iconst 0, 1) := by decide +kernel
theorem dX7_book_2 : decode cX7_book 2 = .ok (.putfield 131, 3) := by decide +kernel
theorem dX7_book_5 : decode cX7_book 5 = .ok (.aload_n 0, 1) := by decide +kernel
theorem dX7_book_6 : decode cX7_book 6 = .ok (.iload_n 2, 1) := by decide +kernel
theorem dX7_book_7 : decode cX7_book 7 = .ok (.invokevirtual 299, 3) := by decide +kernel
theorem dX7_book_10 : decode cX7_book 10 = .ok (.ifCond .eq 42, 3) := by decide +kernel
theorem dX7_book_13 : decode cX7_book 13 = .ok (.iload_n 3, 1) := by decide +kernel
theorem dX7_book_14 : decode cX7_book 14 = .ok (.iconst 0, 1) := by decide +kernel
theorem dX7_book_15 : decode cX7_book 15 = .ok (.iconst 2, 1) := by decide +kernel
theorem dX7_book_16 : decode cX7_book 16 = .ok (.invokestatic 134, 3) := by decide +kernel
theorem dX7_book_19 : decode cX7_book 19 = .ok (.ifCond .eq 33, 3) := by decide +kernel
theorem dX7_book_22 : decode cX7_book 22 = .ok (.iload_n 1, 1) := by decide +kernel
theorem dX7_book_23 : decode cX7_book 23 = .ok (.iconst 0, 1) := by decide +kernel
theorem dX7_book_24 : decode cX7_book 24 = .ok (.aload_n 0, 1) := by decide +kernel
theorem dX7_book_25 : decode cX7_book 25 = .ok (.getfield 248, 3) := by decide +kernel
theorem dX7_book_28 : decode cX7_book 28 = .ok (.invokestatic 134, 3) := by decide +kernel
theorem dX7_book_31 : decode cX7_book 31 = .ok (.ifCond .eq 21, 3) := by decide +kernel
theorem dX7_book_34 : decode cX7_book 34 = .ok (.aload_n 0, 1) := by decide +kernel
theorem dX7_book_35 : decode cX7_book 35 = .ok (.getfield 95, 3) := by decide +kernel
theorem dX7_book_38 : decode cX7_book 38 = .ok (.bipush 18, 2) := by decide +kernel
theorem dX7_book_40 : decode cX7_book 40 = .ok (.iload_n 1, 1) := by decide +kernel
theorem dX7_book_41 : decode cX7_book 41 = .ok (.imul, 1) := by decide +kernel
theorem dX7_book_42 : decode cX7_book 42 = .ok (.iconst 3, 1) := by decide +kernel
theorem dX7_book_43 : decode cX7_book 43 = .ok (.iload_n 2, 1) := by decide +kernel
theorem dX7_book_44 : decode cX7_book 44 = .ok (.imul, 1) := by decide +kernel
theorem dX7_book_45 : decode cX7_book 45 = .ok (.iadd, 1) := by decide +kernel
theorem dX7_book_46 : decode cX7_book 46 = .ok (.iload_n 3, 1) := by decide +kernel
theorem dX7_book_47 : decode cX7_book 47 = .ok (.iadd, 1) := by decide +kernel
theorem dX7_book_48 : decode cX7_book 48 = .ok (.iaload, 1) := by decide +kernel
theorem dX7_book_49 : decode cX7_book 49 = .ok (.goto 8, 3) := by decide +kernel
theorem dX7_book_52 : decode cX7_book 52 = .ok (.aload_n 0, 1) := by decide +kernel
theorem dX7_book_53 : decode cX7_book 53 = .ok (.iconst 1, 1) := by decide +kernel
theorem dX7_book_54 : decode cX7_book 54 = .ok (.invokevirtual 235, 3) := by decide +kernel
theorem dX7_book_57 : decode cX7_book 57 = .ok (.ireturn, 1) := by decide +kernel
theorem dX7_give_0 : decode cX7_give 0 = .ok (.aload_n 0, 1) := by decide +kernel
theorem dX7_give_1 : decode cX7_give 1 = .ok (.iconst 3, 1) := by decide +kernel
theorem dX7_give_2 : decode cX7_give 2 = .ok (.iload_n 1, 1) := by decide +kernel
theorem dX7_give_3 : decode cX7_give 3 = .ok (.imul, 1) := by decide +kernel
theorem dX7_give_4 : decode cX7_give 4 = .ok (.iload_n 2, 1) := by decide +kernel
theorem dX7_give_5 : decode cX7_give 5 = .ok (.iconst 3, 1) := by decide +kernel
theorem dX7_give_6 : decode cX7_give 6 = .ok (.idiv, 1) := by decide +kernel
theorem dX7_give_7 : decode cX7_give 7 = .ok (.iadd, 1) := by decide +kernel
theorem dX7_give_8 : decode cX7_give 8 = .ok (.dup2, 1) := by decide +kernel
theorem dX7_give_9 : decode cX7_give 9 = .ok (.iaload, 1) := by decide +kernel
theorem dX7_give_10 : decode cX7_give 10 = .ok (.iconst 1, 1) := by decide +kernel
theorem dX7_give_11 : decode cX7_give 11 = .ok (.isub, 1) := by decide +kernel
theorem dX7_give_12 : decode cX7_give 12 = .ok (.iastore, 1) := by decide +kernel
theorem dX7_give_13 : decode cX7_give 13 = .ok (.aload_n 0, 1) := by decide +kernel
theorem dX7_give_14 : decode cX7_give 14 = .ok (.iconst 3, 1) := by decide +kernel
theorem dX7_give_15 : decode cX7_give 15 = .ok (.iload_n 1, 1) := by decide +kernel
theorem dX7_give_16 : decode cX7_give 16 = .ok (.imul, 1) := by decide +kernel
theorem dX7_give_17 : decode cX7_give 17 = .ok (.iload_n 2, 1) := by decide +kernel
theorem dX7_give_18 : decode cX7_give 18 = .ok (.iconst 3, 1) := by decide +kernel
theorem dX7_give_19 : decode cX7_give 19 = .ok (.irem, 1) := by decide +kernel
theorem dX7_give_20 : decode cX7_give 20 = .ok (.iadd, 1) := by decide +kernel
theorem dX7_give_21 : decode cX7_give 21 = .ok (.dup2, 1) := by decide +kernel
theorem dX7_give_22 : decode cX7_give 22 = .ok (.iaload, 1) := by decide +kernel
theorem dX7_give_23 : decode cX7_give 23 = .ok (.iconst 1, 1) := by decide +kernel
theorem dX7_give_24 : decode cX7_give 24 = .ok (.iadd, 1) := by decide +kernel
theorem dX7_give_25 : decode cX7_give 25 = .ok (.iastore, 1) := by decide +kernel
theorem dX7_give_26 : decode cX7_give 26 = .ok (.return_, 1) := by decide +kernel
theorem dX7_drop_0 : decode cX7_drop 0 = .ok (.aload_n 0, 1) := by decide +kernel
theorem dX7_drop_1 : decode cX7_drop 1 = .ok (.iconst 0, 1) := by decide +kernel
theorem dX7_drop_2 : decode cX7_drop 2 = .ok (.putfield 131, 3) := by decide +kernel
theorem dX7_drop_5 : decode cX7_drop 5 = .ok (.aload_n 0, 1) := by decide +kernel
theorem dX7_drop_6 : decode cX7_drop 6 = .ok (.iload_n 1, 1) := by decide +kernel
theorem dX7_drop_7 : decode cX7_drop 7 = .ok (.invokevirtual 299, 3) := by decide +kernel
theorem dX7_drop_10 : decode cX7_drop 10 = .ok (.ifCond .eq 26, 3) := by decide +kernel
theorem dX7_drop_13 : decode cX7_drop 13 = .ok (.iload_n 2, 1) := by decide +kernel
theorem dX7_drop_14 : decode cX7_drop 14 = .ok (.iconst 0, 1) := by decide +kernel
theorem dX7_drop_15 : decode cX7_drop 15 = .ok (.iconst 2, 1) := by decide +kernel
theorem dX7_drop_16 : decode cX7_drop 16 = .ok (.invokestatic 134, 3) := by decide +kernel
theorem dX7_drop_19 : decode cX7_drop 19 = .ok (.ifCond .eq 17, 3) := by decide +kernel
theorem dX7_drop_22 : decode cX7_drop 22 = .ok (.iload_n 3, 1) := by decide +kernel
theorem dX7_drop_23 : decode cX7_drop 23 = .ok (.iconst 0, 1) := by decide +kernel
theorem dX7_drop_24 : decode cX7_drop 24 = .ok (.iconst 2, 1) := by decide +kernel
theorem dX7_drop_25 : decode cX7_drop 25 = .ok (.invokestatic 134, 3) := by decide +kernel
theorem dX7_drop_28 : decode cX7_drop 28 = .ok (.ifCond .eq 8, 3) := by decide +kernel
theorem dX7_drop_31 : decode cX7_drop 31 = .ok (.iload_n 2, 1) := by decide +kernel
theorem dX7_drop_32 : decode cX7_drop 32 = .ok (.iload_n 3, 1) := by decide +kernel
theorem dX7_drop_33 : decode cX7_drop 33 = .ok (.if_icmp .ne 10, 3) := by decide +kernel
theorem dX7_drop_36 : decode cX7_drop 36 = .ok (.aload_n 0, 1) := by decide +kernel
theorem dX7_drop_37 : decode cX7_drop 37 = .ok (.iconst 1, 1) := by decide +kernel
theorem dX7_drop_38 : decode cX7_drop 38 = .ok (.putfield 131, 3) := by decide +kernel
theorem dX7_drop_41 : decode cX7_drop 41 = .ok (.iconst 0, 1) := by decide +kernel
theorem dX7_drop_42 : decode cX7_drop 42 = .ok (.ireturn, 1) := by decide +kernel
theorem dX7_drop_43 : decode cX7_drop 43 = .ok (.aload_n 0, 1) := by decide +kernel
theorem dX7_drop_44 : decode cX7_drop 44 = .ok (.getfield 77, 3) := by decide +kernel
theorem dX7_drop_47 : decode cX7_drop 47 = .ok (.iload_n 1, 1) := by decide +kernel
theorem dX7_drop_48 : decode cX7_drop 48 = .ok (.invokestatic 261, 3) := by decide +kernel
theorem dX7_drop_51 : decode cX7_drop 51 = .ok (.ifCond .ne 16, 3) := by decide +kernel
theorem dX7_drop_54 : decode cX7_drop 54 = .ok (.aload_n 0, 1) := by decide +kernel
theorem dX7_drop_55 : decode cX7_drop 55 = .ok (.getfield 77, 3) := by decide +kernel
theorem dX7_drop_58 : decode cX7_drop 58 = .ok (.iconst 3, 1) := by decide +kernel
theorem dX7_drop_59 : decode cX7_drop 59 = .ok (.iload_n 1, 1) := by decide +kernel
theorem dX7_drop_60 : decode cX7_drop 60 = .ok (.imul, 1) := by decide +kernel
theorem dX7_drop_61 : decode cX7_drop 61 = .ok (.iload_n 2, 1) := by decide +kernel
theorem dX7_drop_62 : decode cX7_drop 62 = .ok (.iadd, 1) := by decide +kernel
theorem dX7_drop_63 : decode cX7_drop 63 = .ok (.iaload, 1) := by decide +kernel
theorem dX7_drop_64 : decode cX7_drop 64 = .ok (.ifCond .ne 15, 3) := by decide +kernel
theorem dX7_drop_67 : decode cX7_drop 67 = .ok (.aload_n 0, 1) := by decide +kernel
theorem dX7_drop_68 : decode cX7_drop 68 = .ok (.getfield 67, 3) := by decide +kernel
theorem dX7_drop_71 : decode cX7_drop 71 = .ok (.iconst 1, 1) := by decide +kernel
theorem dX7_drop_72 : decode cX7_drop 72 = .ok (.dup2, 1) := by decide +kernel
theorem dX7_drop_73 : decode cX7_drop 73 = .ok (.iaload, 1) := by decide +kernel
theorem dX7_drop_74 : decode cX7_drop 74 = .ok (.iconst 1, 1) := by decide +kernel
theorem dX7_drop_75 : decode cX7_drop 75 = .ok (.iadd, 1) := by decide +kernel
theorem dX7_drop_76 : decode cX7_drop 76 = .ok (.iastore, 1) := by decide +kernel
theorem dX7_drop_77 : decode cX7_drop 77 = .ok (.iconst 0, 1) := by decide +kernel
theorem dX7_drop_78 : decode cX7_drop 78 = .ok (.ireturn, 1) := by decide +kernel
theorem dX7_drop_79 : decode cX7_drop 79 = .ok (.aload_n 0, 1) := by decide +kernel
theorem dX7_drop_80 : decode cX7_drop 80 = .ok (.getfield 77, 3) := by decide +kernel
theorem dX7_drop_83 : decode cX7_drop 83 = .ok (.iload_n 1, 1) := by decide +kernel
theorem dX7_drop_84 : decode cX7_drop 84 = .ok (.iconst 3, 1) := by decide +kernel
theorem dX7_drop_85 : decode cX7_drop 85 = .ok (.iload_n 2, 1) := by decide +kernel
theorem dX7_drop_86 : decode cX7_drop 86 = .ok (.imul, 1) := by decide +kernel
theorem dX7_drop_87 : decode cX7_drop 87 = .ok (.iload_n 3, 1) := by decide +kernel
theorem dX7_drop_88 : decode cX7_drop 88 = .ok (.iadd, 1) := by decide +kernel
theorem dX7_drop_89 : decode cX7_drop 89 = .ok (.invokestatic 309, 3) := by decide +kernel
theorem dX7_drop_92 : decode cX7_drop 92 = .ok (.iconst 1, 1) := by decide +kernel
theorem dX7_drop_93 : decode cX7_drop 93 = .ok (.ireturn, 1) := by decide +kernel
theorem dX7_isAs_0 : decode cX7_isAs 0 = .ok (.aload_n 0, 1) := by decide +kernel
theorem dX7_isAs_1 : decode cX7_isAs 1 = .ok (.getfield 104, 3) := by decide +kernel
theorem dX7_isAs_4 : decode cX7_isAs 4 = .ok (.iload_n 1, 1) := by decide +kernel
theorem dX7_isAs_5 : decode cX7_isAs 5 = .ok (.iaload, 1) := by decide +kernel
theorem dX7_isAs_6 : decode cX7_isAs 6 = .ok (.aload_n 0, 1) := by decide +kernel
theorem dX7_isAs_7 : decode cX7_isAs 7 = .ok (.getfield 104, 3) := by decide +kernel
theorem dX7_isAs_10 : decode cX7_isAs 10 = .ok (.iload_n 2, 1) := by decide +kernel
theorem dX7_isAs_11 : decode cX7_isAs 11 = .ok (.iaload, 1) := by decide +kernel
theorem dX7_isAs_12 : decode cX7_isAs 12 = .ok (.if_icmp .ne 7, 3) := by decide +kernel
theorem dX7_isAs_15 : decode cX7_isAs 15 = .ok (.iconst 1, 1) := by decide +kernel
theorem dX7_isAs_16 : decode cX7_isAs 16 = .ok (.goto 4, 3) := by decide +kernel
theorem dX7_isAs_19 : decode cX7_isAs 19 = .ok (.iconst 0, 1) := by decide +kernel
theorem dX7_isAs_20 : decode cX7_isAs 20 = .ok (.istore_n 3, 1) := by decide +kernel
theorem dX7_isAs_21 : decode cX7_isAs 21 = .ok (.iconst 0, 1) := by decide +kernel
theorem dX7_isAs_22 : decode cX7_isAs 22 = .ok (.istore 4, 2) := by decide +kernel
theorem dX7_isAs_24 : decode cX7_isAs 24 = .ok (.iload 4, 2) := by decide +kernel
theorem dX7_isAs_26 : decode cX7_isAs 26 = .ok (.bipush 18, 2) := by decide +kernel
theorem dX7_isAs_28 : decode cX7_isAs 28 = .ok (.if_icmp .ge 46, 3) := by decide +kernel
theorem dX7_isAs_31 : decode cX7_isAs 31 = .ok (.iload_n 3, 1) := by decide +kernel
theorem dX7_isAs_32 : decode cX7_isAs 32 = .ok (.ifCond .eq 42, 3) := by decide +kernel
theorem dX7_isAs_35 : decode cX7_isAs 35 = .ok (.aload_n 0, 1) := by decide +kernel
theorem dX7_isAs_36 : decode cX7_isAs 36 = .ok (.getfield 101, 3) := by decide +kernel
theorem dX7_isAs_39 : decode cX7_isAs 39 = .ok (.bipush 18, 2) := by decide +kernel
theorem dX7_isAs_41 : decode cX7_isAs 41 = .ok (.iload_n 1, 1) := by decide +kernel
theorem dX7_isAs_42 : decode cX7_isAs 42 = .ok (.imul, 1) := by decide +kernel
theorem dX7_isAs_43 : decode cX7_isAs 43 = .ok (.iload 4, 2) := by decide +kernel
theorem dX7_isAs_45 : decode cX7_isAs 45 = .ok (.iadd, 1) := by decide +kernel
theorem dX7_isAs_46 : decode cX7_isAs 46 = .ok (.iaload, 1) := by decide +kernel
theorem dX7_isAs_47 : decode cX7_isAs 47 = .ok (.aload_n 0, 1) := by decide +kernel
theorem dX7_isAs_48 : decode cX7_isAs 48 = .ok (.getfield 101, 3) := by decide +kernel
theorem dX7_isAs_51 : decode cX7_isAs 51 = .ok (.bipush 18, 2) := by decide +kernel
theorem dX7_isAs_53 : decode cX7_isAs 53 = .ok (.iload_n 2, 1) := by decide +kernel
theorem dX7_isAs_54 : decode cX7_isAs 54 = .ok (.imul, 1) := by decide +kernel
theorem dX7_isAs_55 : decode cX7_isAs 55 = .ok (.iload 4, 2) := by decide +kernel
theorem dX7_isAs_57 : decode cX7_isAs 57 = .ok (.iadd, 1) := by decide +kernel
theorem dX7_isAs_58 : decode cX7_isAs 58 = .ok (.iaload, 1) := by decide +kernel
theorem dX7_isAs_59 : decode cX7_isAs 59 = .ok (.if_icmp .ne 7, 3) := by decide +kernel
theorem dX7_isAs_62 : decode cX7_isAs 62 = .ok (.iconst 1, 1) := by decide +kernel
theorem dX7_isAs_63 : decode cX7_isAs 63 = .ok (.goto 4, 3) := by decide +kernel
theorem dX7_isAs_66 : decode cX7_isAs 66 = .ok (.iconst 0, 1) := by decide +kernel
theorem dX7_isAs_67 : decode cX7_isAs 67 = .ok (.istore_n 3, 1) := by decide +kernel
theorem dX7_isAs_68 : decode cX7_isAs 68 = .ok (.iinc 4 1, 3) := by decide +kernel
theorem dX7_isAs_71 : decode cX7_isAs 71 = .ok (.goto (-47), 3) := by decide +kernel
theorem dX7_isAs_74 : decode cX7_isAs 74 = .ok (.iload_n 3, 1) := by decide +kernel
theorem dX7_isAs_75 : decode cX7_isAs 75 = .ok (.ireturn, 1) := by decide +kernel
theorem dX7_roundBy_0 : decode cX7_roundBy 0 = .ok (.aload_n 0, 1) := by decide +kernel
theorem dX7_roundBy_1 : decode cX7_roundBy 1 = .ok (.getfield 80, 3) := by decide +kernel
theorem dX7_roundBy_4 : decode cX7_roundBy 4 = .ok (.aload_n 0, 1) := by decide +kernel
theorem dX7_roundBy_5 : decode cX7_roundBy 5 = .ok (.getfield 77, 3) := by decide +kernel
theorem dX7_roundBy_8 : decode cX7_roundBy 8 = .ok (.invokestatic 287, 3) := by decide +kernel
theorem dX7_roundBy_11 : decode cX7_roundBy 11 = .ok (.aload_n 0, 1) := by decide +kernel
theorem dX7_roundBy_12 : decode cX7_roundBy 12 = .ok (.getfield 248, 3) := by decide +kernel
theorem dX7_roundBy_15 : decode cX7_roundBy 15 = .ok (.istore_n 1, 1) := by decide +kernel
theorem dX7_roundBy_16 : decode cX7_roundBy 16 = .ok (.iload_n 1, 1) := by decide +kernel
theorem dX7_roundBy_17 : decode cX7_roundBy 17 = .ok (.sipush 1100, 3) := by decide +kernel
theorem dX7_roundBy_20 : decode cX7_roundBy 20 = .ok (.if_icmp .gt 107, 3) := by decide +kernel
theorem dX7_roundBy_23 : decode cX7_roundBy 23 = .ok (.iload_n 1, 1) := by decide +kernel
theorem dX7_roundBy_24 : decode cX7_roundBy 24 = .ok (.bipush 100, 2) := by decide +kernel
theorem dX7_roundBy_26 : decode cX7_roundBy 26 = .ok (.if_icmp .lt 80, 3) := by decide +kernel
theorem dX7_roundBy_29 : decode cX7_roundBy 29 = .ok (.iload_n 1, 1) := by decide +kernel
theorem dX7_roundBy_30 : decode cX7_roundBy 30 = .ok (.bipush 100, 2) := by decide +kernel
theorem dX7_roundBy_32 : decode cX7_roundBy 32 = .ok (.isub, 1) := by decide +kernel
theorem dX7_roundBy_33 : decode cX7_roundBy 33 = .ok (.istore_n 2, 1) := by decide +kernel
theorem dX7_roundBy_34 : decode cX7_roundBy 34 = .ok (.iconst 0, 1) := by decide +kernel
theorem dX7_roundBy_35 : decode cX7_roundBy 35 = .ok (.istore_n 3, 1) := by decide +kernel
theorem dX7_roundBy_36 : decode cX7_roundBy 36 = .ok (.iload_n 3, 1) := by decide +kernel
theorem dX7_roundBy_37 : decode cX7_roundBy 37 = .ok (.bipush 18, 2) := by decide +kernel
theorem dX7_roundBy_39 : decode cX7_roundBy 39 = .ok (.if_icmp .ge 26, 3) := by decide +kernel
theorem dX7_roundBy_42 : decode cX7_roundBy 42 = .ok (.aload_n 0, 1) := by decide +kernel
theorem dX7_roundBy_43 : decode cX7_roundBy 43 = .ok (.getfield 101, 3) := by decide +kernel
theorem dX7_roundBy_46 : decode cX7_roundBy 46 = .ok (.bipush 18, 2) := by decide +kernel
theorem dX7_roundBy_48 : decode cX7_roundBy 48 = .ok (.iload_n 2, 1) := by decide +kernel
theorem dX7_roundBy_49 : decode cX7_roundBy 49 = .ok (.imul, 1) := by decide +kernel
theorem dX7_roundBy_50 : decode cX7_roundBy 50 = .ok (.iload_n 3, 1) := by decide +kernel
theorem dX7_roundBy_51 : decode cX7_roundBy 51 = .ok (.iadd, 1) := by decide +kernel
theorem dX7_roundBy_52 : decode cX7_roundBy 52 = .ok (.aload_n 0, 1) := by decide +kernel
theorem dX7_roundBy_53 : decode cX7_roundBy 53 = .ok (.getfield 80, 3) := by decide +kernel
theorem dX7_roundBy_56 : decode cX7_roundBy 56 = .ok (.iload_n 3, 1) := by decide +kernel
theorem dX7_roundBy_57 : decode cX7_roundBy 57 = .ok (.iaload, 1) := by decide +kernel
theorem dX7_roundBy_58 : decode cX7_roundBy 58 = .ok (.iastore, 1) := by decide +kernel
theorem dX7_roundBy_59 : decode cX7_roundBy 59 = .ok (.iinc 3 1, 3) := by decide +kernel
theorem dX7_roundBy_62 : decode cX7_roundBy 62 = .ok (.goto (-26), 3) := by decide +kernel
theorem dX7_roundBy_65 : decode cX7_roundBy 65 = .ok (.aload_n 0, 1) := by decide +kernel
theorem dX7_roundBy_66 : decode cX7_roundBy 66 = .ok (.getfield 104, 3) := by decide +kernel
theorem dX7_roundBy_69 : decode cX7_roundBy 69 = .ok (.iload_n 2, 1) := by decide +kernel
theorem dX7_roundBy_70 : decode cX7_roundBy 70 = .ok (.aload_n 0, 1) := by decide +kernel
theorem dX7_roundBy_71 : decode cX7_roundBy 71 = .ok (.aload_n 0, 1) := by decide +kernel
theorem dX7_roundBy_72 : decode cX7_roundBy 72 = .ok (.getfield 80, 3) := by decide +kernel
theorem dX7_roundBy_75 : decode cX7_roundBy 75 = .ok (.invokevirtual 302, 3) := by decide +kernel
theorem dX7_roundBy_78 : decode cX7_roundBy 78 = .ok (.iastore, 1) := by decide +kernel
theorem dX7_roundBy_79 : decode cX7_roundBy 79 = .ok (.iload_n 2, 1) := by decide +kernel
theorem dX7_roundBy_80 : decode cX7_roundBy 80 = .ok (.iconst 2, 1) := by decide +kernel
theorem dX7_roundBy_81 : decode cX7_roundBy 81 = .ok (.isub, 1) := by decide +kernel
theorem dX7_roundBy_82 : decode cX7_roundBy 82 = .ok (.istore_n 3, 1) := by decide +kernel
theorem dX7_roundBy_83 : decode cX7_roundBy 83 = .ok (.iload_n 3, 1) := by decide +kernel
theorem dX7_roundBy_84 : decode cX7_roundBy 84 = .ok (.ifCond .lt 22, 3) := by decide +kernel
theorem dX7_roundBy_87 : decode cX7_roundBy 87 = .ok (.aload_n 0, 1) := by decide +kernel
theorem dX7_roundBy_88 : decode cX7_roundBy 88 = .ok (.iload_n 3, 1) := by decide +kernel
theorem dX7_roundBy_89 : decode cX7_roundBy 89 = .ok (.iload_n 2, 1) := by decide +kernel
theorem dX7_roundBy_90 : decode cX7_roundBy 90 = .ok (.invokevirtual 313, 3) := by decide +kernel
theorem dX7_roundBy_93 : decode cX7_roundBy 93 = .ok (.ifCond .eq 7, 3) := by decide +kernel
theorem dX7_roundBy_96 : decode cX7_roundBy 96 = .ok (.iload_n 2, 1) := by decide +kernel
theorem dX7_roundBy_97 : decode cX7_roundBy 97 = .ok (.iload_n 3, 1) := by decide +kernel
theorem dX7_roundBy_98 : decode cX7_roundBy 98 = .ok (.isub, 1) := by decide +kernel
theorem dX7_roundBy_99 : decode cX7_roundBy 99 = .ok (.ireturn, 1) := by decide +kernel
theorem dX7_roundBy_100 : decode cX7_roundBy 100 = .ok (.iinc 3 (-2), 3) := by decide +kernel
theorem dX7_roundBy_103 : decode cX7_roundBy 103 = .ok (.goto (-20), 3) := by decide +kernel
theorem dX7_roundBy_106 : decode cX7_roundBy 106 = .ok (.aload_n 0, 1) := by decide +kernel
theorem dX7_roundBy_107 : decode cX7_roundBy 107 = .ok (.aload_n 0, 1) := by decide +kernel
theorem dX7_roundBy_108 : decode cX7_roundBy 108 = .ok (.getfield 80, 3) := by decide +kernel
theorem dX7_roundBy_111 : decode cX7_roundBy 111 = .ok (.iload_n 1, 1) := by decide +kernel
theorem dX7_roundBy_112 : decode cX7_roundBy 112 = .ok (.aload_n 0, 1) := by decide +kernel
theorem dX7_roundBy_113 : decode cX7_roundBy 113 = .ok (.getfield 55, 3) := by decide +kernel
theorem dX7_roundBy_116 : decode cX7_roundBy 116 = .ok (.iconst 0, 1) := by decide +kernel
theorem dX7_roundBy_117 : decode cX7_roundBy 117 = .ok (.invokevirtual 305, 3) := by decide +kernel
theorem dX7_roundBy_120 : decode cX7_roundBy 120 = .ok (.pop, 1) := by decide +kernel
theorem dX7_roundBy_121 : decode cX7_roundBy 121 = .ok (.iinc 1 1, 3) := by decide +kernel
theorem dX7_roundBy_124 : decode cX7_roundBy 124 = .ok (.goto (-108), 3) := by decide +kernel
theorem dX7_roundBy_127 : decode cX7_roundBy 127 = .ok (.iconst (-1), 1) := by decide +kernel
theorem dX7_roundBy_128 : decode cX7_roundBy 128 = .ok (.ireturn, 1) := by decide +kernel
theorem dX7_end_0 : decode cX7_end 0 = .ok (.aload_n 0, 1) := by decide +kernel
theorem dX7_end_1 : decode cX7_end 1 = .ok (.iconst 0, 1) := by decide +kernel
theorem dX7_end_2 : decode cX7_end 2 = .ok (.putfield 131, 3) := by decide +kernel
theorem dX7_end_5 : decode cX7_end 5 = .ok (.iload_n 1, 1) := by decide +kernel
theorem dX7_end_6 : decode cX7_end 6 = .ok (.ifCond .lt 8, 3) := by decide +kernel
theorem dX7_end_9 : decode cX7_end 9 = .ok (.iload_n 1, 1) := by decide +kernel
theorem dX7_end_10 : decode cX7_end 10 = .ok (.iconst 1, 1) := by decide +kernel
theorem dX7_end_11 : decode cX7_end 11 = .ok (.if_icmp .le 9, 3) := by decide +kernel
theorem dX7_end_14 : decode cX7_end 14 = .ok (.aload_n 0, 1) := by decide +kernel
theorem dX7_end_15 : decode cX7_end 15 = .ok (.iconst 1, 1) := by decide +kernel
theorem dX7_end_16 : decode cX7_end 16 = .ok (.invokevirtual 235, 3) := by decide +kernel
theorem dX7_end_19 : decode cX7_end 19 = .ok (.ireturn, 1) := by decide +kernel
theorem dX7_end_20 : decode cX7_end 20 = .ok (.aload_n 0, 1) := by decide +kernel
theorem dX7_end_21 : decode cX7_end 21 = .ok (.invokevirtual 317, 3) := by decide +kernel
theorem dX7_end_24 : decode cX7_end 24 = .ok (.istore_n 2, 1) := by decide +kernel
theorem dX7_end_25 : decode cX7_end 25 = .ok (.iload_n 2, 1) := by decide +kernel
theorem dX7_end_26 : decode cX7_end 26 = .ok (.iconst (-1), 1) := by decide +kernel
theorem dX7_end_27 : decode cX7_end 27 = .ok (.if_icmp .eq 7, 3) := by decide +kernel
theorem dX7_end_30 : decode cX7_end 30 = .ok (.iload_n 1, 1) := by decide +kernel
theorem dX7_end_31 : decode cX7_end 31 = .ok (.ifCond .ne 7, 3) := by decide +kernel
theorem dX7_end_34 : decode cX7_end 34 = .ok (.iload_n 2, 1) := by decide +kernel
theorem dX7_end_35 : decode cX7_end 35 = .ok (.goto 24, 3) := by decide +kernel
theorem dX7_end_38 : decode cX7_end 38 = .ok (.iconst 1, 1) := by decide +kernel
theorem dX7_end_39 : decode cX7_end 39 = .ok (.aload_n 0, 1) := by decide +kernel
theorem dX7_end_40 : decode cX7_end 40 = .ok (.getfield 43, 3) := by decide +kernel
theorem dX7_end_43 : decode cX7_end 43 = .ok (.iconst 1, 1) := by decide +kernel
theorem dX7_end_44 : decode cX7_end 44 = .ok (.iaload, 1) := by decide +kernel
theorem dX7_end_45 : decode cX7_end 45 = .ok (.ishl, 1) := by decide +kernel
theorem dX7_end_46 : decode cX7_end 46 = .ok (.iconst 1, 1) := by decide +kernel
theorem dX7_end_47 : decode cX7_end 47 = .ok (.isub, 1) := by decide +kernel
theorem dX7_end_48 : decode cX7_end 48 = .ok (.aload_n 0, 1) := by decide +kernel
theorem dX7_end_49 : decode cX7_end 49 = .ok (.aload_n 0, 1) := by decide +kernel
theorem dX7_end_50 : decode cX7_end 50 = .ok (.getfield 80, 3) := by decide +kernel
theorem dX7_end_53 : decode cX7_end 53 = .ok (.invokevirtual 302, 3) := by decide +kernel
theorem dX7_end_56 : decode cX7_end 56 = .ok (.iconst (-1), 1) := by decide +kernel
theorem dX7_end_57 : decode cX7_end 57 = .ok (.ixor, 1) := by decide +kernel
theorem dX7_end_58 : decode cX7_end 58 = .ok (.iand, 1) := by decide +kernel
theorem dX7_end_59 : decode cX7_end 59 = .ok (.ireturn, 1) := by decide +kernel
theorem dX7_matches_0 : decode cX7_matches 0 = .ok (.aload_n 0, 1) := by decide +kernel
theorem dX7_matches_1 : decode cX7_matches 1 = .ok (.iconst 0, 1) := by decide +kernel
theorem dX7_matches_2 : decode cX7_matches 2 = .ok (.putfield 131, 3) := by decide +kernel
theorem dX7_matches_5 : decode cX7_matches 5 = .ok (.iload_n 1, 1) := by decide +kernel
theorem dX7_matches_6 : decode cX7_matches 6 = .ok (.iconst 0, 1) := by decide +kernel
theorem dX7_matches_7 : decode cX7_matches 7 = .ok (.iconst 3, 1) := by decide +kernel
theorem dX7_matches_8 : decode cX7_matches 8 = .ok (.invokestatic 134, 3) := by decide +kernel
theorem dX7_matches_11 : decode cX7_matches 11 = .ok (.ifCond .ne 9, 3) := by decide +kernel
theorem dX7_matches_14 : decode cX7_matches 14 = .ok (.aload_n 0, 1) := by decide +kernel
theorem dX7_matches_15 : decode cX7_matches 15 = .ok (.iconst 1, 1) := by decide +kernel
theorem dX7_matches_16 : decode cX7_matches 16 = .ok (.invokevirtual 235, 3) := by decide +kernel
theorem dX7_matches_19 : decode cX7_matches 19 = .ok (.ireturn, 1) := by decide +kernel
theorem dX7_matches_20 : decode cX7_matches 20 = .ok (.aload_n 0, 1) := by decide +kernel
theorem dX7_matches_21 : decode cX7_matches 21 = .ok (.getfield 80, 3) := by decide +kernel
theorem dX7_matches_24 : decode cX7_matches 24 = .ok (.aload_n 0, 1) := by decide +kernel
theorem dX7_matches_25 : decode cX7_matches 25 = .ok (.getfield 77, 3) := by decide +kernel
theorem dX7_matches_28 : decode cX7_matches 28 = .ok (.invokestatic 287, 3) := by decide +kernel
theorem dX7_matches_31 : decode cX7_matches 31 = .ok (.aload_n 0, 1) := by decide +kernel
theorem dX7_matches_32 : decode cX7_matches 32 = .ok (.getfield 248, 3) := by decide +kernel
theorem dX7_matches_35 : decode cX7_matches 35 = .ok (.istore_n 2, 1) := by decide +kernel
theorem dX7_matches_36 : decode cX7_matches 36 = .ok (.iload_n 2, 1) := by decide +kernel
theorem dX7_matches_37 : decode cX7_matches 37 = .ok (.aload_n 0, 1) := by decide +kernel
theorem dX7_matches_38 : decode cX7_matches 38 = .ok (.getfield 43, 3) := by decide +kernel
theorem dX7_matches_41 : decode cX7_matches 41 = .ok (.iconst 5, 1) := by decide +kernel
theorem dX7_matches_42 : decode cX7_matches 42 = .ok (.iaload, 1) := by decide +kernel
theorem dX7_matches_43 : decode cX7_matches 43 = .ok (.if_icmp .ge 24, 3) := by decide +kernel
theorem dX7_matches_46 : decode cX7_matches 46 = .ok (.aload_n 0, 1) := by decide +kernel
theorem dX7_matches_47 : decode cX7_matches 47 = .ok (.aload_n 0, 1) := by decide +kernel
theorem dX7_matches_48 : decode cX7_matches 48 = .ok (.getfield 80, 3) := by decide +kernel
theorem dX7_matches_51 : decode cX7_matches 51 = .ok (.iload_n 2, 1) := by decide +kernel
theorem dX7_matches_52 : decode cX7_matches 52 = .ok (.aload_n 0, 1) := by decide +kernel
theorem dX7_matches_53 : decode cX7_matches 53 = .ok (.getfield 55, 3) := by decide +kernel
theorem dX7_matches_56 : decode cX7_matches 56 = .ok (.iload_n 1, 1) := by decide +kernel
theorem dX7_matches_57 : decode cX7_matches 57 = .ok (.invokevirtual 305, 3) := by decide +kernel
theorem dX7_matches_60 : decode cX7_matches 60 = .ok (.pop, 1) := by decide +kernel
theorem dX7_matches_61 : decode cX7_matches 61 = .ok (.iinc 2 1, 3) := by decide +kernel
theorem dX7_matches_64 : decode cX7_matches 64 = .ok (.goto (-28), 3) := by decide +kernel
theorem dX7_matches_67 : decode cX7_matches 67 = .ok (.aload_n 0, 1) := by decide +kernel
theorem dX7_matches_68 : decode cX7_matches 68 = .ok (.aload_n 0, 1) := by decide +kernel
theorem dX7_matches_69 : decode cX7_matches 69 = .ok (.getfield 80, 3) := by decide +kernel
theorem dX7_matches_72 : decode cX7_matches 72 = .ok (.invokevirtual 295, 3) := by decide +kernel
theorem dX7_matches_75 : decode cX7_matches 75 = .ok (.ireturn, 1) := by decide +kernel
theorem dX7_goOn_0 : decode cX7_goOn 0 = .ok (.aload_n 0, 1) := by decide +kernel
theorem dX7_goOn_1 : decode cX7_goOn 1 = .ok (.getfield 248, 3) := by decide +kernel
theorem dX7_goOn_4 : decode cX7_goOn 4 = .ok (.istore_n 1, 1) := by decide +kernel
theorem dX7_goOn_5 : decode cX7_goOn 5 = .ok (.iload_n 1, 1) := by decide +kernel
theorem dX7_goOn_6 : decode cX7_goOn 6 = .ok (.aload_n 0, 1) := by decide +kernel
theorem dX7_goOn_7 : decode cX7_goOn 7 = .ok (.getfield 43, 3) := by decide +kernel
theorem dX7_goOn_10 : decode cX7_goOn 10 = .ok (.iconst 5, 1) := by decide +kernel
theorem dX7_goOn_11 : decode cX7_goOn 11 = .ok (.iaload, 1) := by decide +kernel
theorem dX7_goOn_12 : decode cX7_goOn 12 = .ok (.if_icmp .ge 24, 3) := by decide +kernel
theorem dX7_goOn_15 : decode cX7_goOn 15 = .ok (.aload_n 0, 1) := by decide +kernel
theorem dX7_goOn_16 : decode cX7_goOn 16 = .ok (.aload_n 0, 1) := by decide +kernel
theorem dX7_goOn_17 : decode cX7_goOn 17 = .ok (.getfield 80, 3) := by decide +kernel
theorem dX7_goOn_20 : decode cX7_goOn 20 = .ok (.iload_n 1, 1) := by decide +kernel
theorem dX7_goOn_21 : decode cX7_goOn 21 = .ok (.aload_n 0, 1) := by decide +kernel
theorem dX7_goOn_22 : decode cX7_goOn 22 = .ok (.getfield 55, 3) := by decide +kernel
theorem dX7_goOn_25 : decode cX7_goOn 25 = .ok (.iconst 0, 1) := by decide +kernel
theorem dX7_goOn_26 : decode cX7_goOn 26 = .ok (.invokevirtual 305, 3) := by decide +kernel
theorem dX7_goOn_29 : decode cX7_goOn 29 = .ok (.pop, 1) := by decide +kernel
theorem dX7_goOn_30 : decode cX7_goOn 30 = .ok (.iinc 1 1, 3) := by decide +kernel
theorem dX7_goOn_33 : decode cX7_goOn 33 = .ok (.goto (-28), 3) := by decide +kernel
theorem dX7_goOn_36 : decode cX7_goOn 36 = .ok (.return_, 1) := by decide +kernel
theorem dX7_weds_0 : decode cX7_weds 0 = .ok (.aload_n 0, 1) := by decide +kernel
theorem dX7_weds_1 : decode cX7_weds 1 = .ok (.getfield 55, 3) := by decide +kernel
theorem dX7_weds_4 : decode cX7_weds 4 = .ok (.iload_n 1, 1) := by decide +kernel
theorem dX7_weds_5 : decode cX7_weds 5 = .ok (.iaload, 1) := by decide +kernel
theorem dX7_weds_6 : decode cX7_weds 6 = .ok (.iconst (-1), 1) := by decide +kernel
theorem dX7_weds_7 : decode cX7_weds 7 = .ok (.if_icmp .eq 33, 3) := by decide +kernel
theorem dX7_weds_10 : decode cX7_weds 10 = .ok (.aload_n 0, 1) := by decide +kernel
theorem dX7_weds_11 : decode cX7_weds 11 = .ok (.getfield 80, 3) := by decide +kernel
theorem dX7_weds_14 : decode cX7_weds 14 = .ok (.bipush 18, 2) := by decide +kernel
theorem dX7_weds_16 : decode cX7_weds 16 = .ok (.iload_n 1, 1) := by decide +kernel
theorem dX7_weds_17 : decode cX7_weds 17 = .ok (.iadd, 1) := by decide +kernel
theorem dX7_weds_18 : decode cX7_weds 18 = .ok (.iaload, 1) := by decide +kernel
theorem dX7_weds_19 : decode cX7_weds 19 = .ok (.aload_n 0, 1) := by decide +kernel
theorem dX7_weds_20 : decode cX7_weds 20 = .ok (.getfield 55, 3) := by decide +kernel
theorem dX7_weds_23 : decode cX7_weds 23 = .ok (.iload_n 1, 1) := by decide +kernel
theorem dX7_weds_24 : decode cX7_weds 24 = .ok (.iaload, 1) := by decide +kernel
theorem dX7_weds_25 : decode cX7_weds 25 = .ok (.if_icmp .ne 15, 3) := by decide +kernel
theorem dX7_weds_28 : decode cX7_weds 28 = .ok (.aload_n 0, 1) := by decide +kernel
theorem dX7_weds_29 : decode cX7_weds 29 = .ok (.getfield 80, 3) := by decide +kernel
theorem dX7_weds_32 : decode cX7_weds 32 = .ok (.bipush 24, 2) := by decide +kernel
theorem dX7_weds_34 : decode cX7_weds 34 = .ok (.iload_n 1, 1) := by decide +kernel
theorem dX7_weds_35 : decode cX7_weds 35 = .ok (.iadd, 1) := by decide +kernel
theorem dX7_weds_36 : decode cX7_weds 36 = .ok (.iaload, 1) := by decide +kernel
theorem dX7_weds_37 : decode cX7_weds 37 = .ok (.goto 6, 3) := by decide +kernel
theorem dX7_weds_40 : decode cX7_weds 40 = .ok (.sipush 1000, 3) := by decide +kernel
theorem dX7_weds_43 : decode cX7_weds 43 = .ok (.ireturn, 1) := by decide +kernel
theorem dX7_canGive_0 : decode cX7_canGive 0 = .ok (.iload_n 2, 1) := by decide +kernel
theorem dX7_canGive_1 : decode cX7_canGive 1 = .ok (.iconst 1, 1) := by decide +kernel
theorem dX7_canGive_2 : decode cX7_canGive 2 = .ok (.isub, 1) := by decide +kernel
theorem dX7_canGive_3 : decode cX7_canGive 3 = .ok (.istore_n 3, 1) := by decide +kernel
theorem dX7_canGive_4 : decode cX7_canGive 4 = .ok (.iload_n 2, 1) := by decide +kernel
theorem dX7_canGive_5 : decode cX7_canGive 5 = .ok (.ifCond .eq 27, 3) := by decide +kernel
theorem dX7_canGive_8 : decode cX7_canGive 8 = .ok (.iload_n 3, 1) := by decide +kernel
theorem dX7_canGive_9 : decode cX7_canGive 9 = .ok (.iconst 3, 1) := by decide +kernel
theorem dX7_canGive_10 : decode cX7_canGive 10 = .ok (.idiv, 1) := by decide +kernel
theorem dX7_canGive_11 : decode cX7_canGive 11 = .ok (.iload_n 3, 1) := by decide +kernel
theorem dX7_canGive_12 : decode cX7_canGive 12 = .ok (.iconst 3, 1) := by decide +kernel
theorem dX7_canGive_13 : decode cX7_canGive 13 = .ok (.irem, 1) := by decide +kernel
theorem dX7_canGive_14 : decode cX7_canGive 14 = .ok (.if_icmp .eq 22, 3) := by decide +kernel
theorem dX7_canGive_17 : decode cX7_canGive 17 = .ok (.aload_n 0, 1) := by decide +kernel
theorem dX7_canGive_18 : decode cX7_canGive 18 = .ok (.getfield 77, 3) := by decide +kernel
theorem dX7_canGive_21 : decode cX7_canGive 21 = .ok (.iconst 3, 1) := by decide +kernel
theorem dX7_canGive_22 : decode cX7_canGive 22 = .ok (.iload_n 1, 1) := by decide +kernel
theorem dX7_canGive_23 : decode cX7_canGive 23 = .ok (.imul, 1) := by decide +kernel
theorem dX7_canGive_24 : decode cX7_canGive 24 = .ok (.iload_n 3, 1) := by decide +kernel
theorem dX7_canGive_25 : decode cX7_canGive 25 = .ok (.iconst 3, 1) := by decide +kernel
theorem dX7_canGive_26 : decode cX7_canGive 26 = .ok (.idiv, 1) := by decide +kernel
theorem dX7_canGive_27 : decode cX7_canGive 27 = .ok (.iadd, 1) := by decide +kernel
theorem dX7_canGive_28 : decode cX7_canGive 28 = .ok (.iaload, 1) := by decide +kernel
theorem dX7_canGive_29 : decode cX7_canGive 29 = .ok (.ifCond .le 7, 3) := by decide +kernel
theorem dX7_canGive_32 : decode cX7_canGive 32 = .ok (.iconst 1, 1) := by decide +kernel
theorem dX7_canGive_33 : decode cX7_canGive 33 = .ok (.goto 4, 3) := by decide +kernel
theorem dX7_canGive_36 : decode cX7_canGive 36 = .ok (.iconst 0, 1) := by decide +kernel
theorem dX7_canGive_37 : decode cX7_canGive 37 = .ok (.ireturn, 1) := by decide +kernel
theorem dX7_mother_0 : decode cX7_mother 0 = .ok (.aload_n 0, 1) := by decide +kernel
theorem dX7_mother_1 : decode cX7_mother 1 = .ok (.iconst 0, 1) := by decide +kernel
theorem dX7_mother_2 : decode cX7_mother 2 = .ok (.putfield 131, 3) := by decide +kernel
theorem dX7_mother_5 : decode cX7_mother 5 = .ok (.aload_n 0, 1) := by decide +kernel
theorem dX7_mother_6 : decode cX7_mother 6 = .ok (.iload_n 1, 1) := by decide +kernel
theorem dX7_mother_7 : decode cX7_mother 7 = .ok (.invokevirtual 299, 3) := by decide +kernel
theorem dX7_mother_10 : decode cX7_mother 10 = .ok (.ifCond .eq 12, 3) := by decide +kernel
theorem dX7_mother_13 : decode cX7_mother 13 = .ok (.iload_n 2, 1) := by decide +kernel
theorem dX7_mother_14 : decode cX7_mother 14 = .ok (.ifCond .lt 8, 3) := by decide +kernel
theorem dX7_mother_17 : decode cX7_mother 17 = .ok (.iload_n 2, 1) := by decide +kernel
theorem dX7_mother_18 : decode cX7_mother 18 = .ok (.iconst 1, 1) := by decide +kernel
theorem dX7_mother_19 : decode cX7_mother 19 = .ok (.if_icmp .le 9, 3) := by decide +kernel
theorem dX7_mother_22 : decode cX7_mother 22 = .ok (.aload_n 0, 1) := by decide +kernel
theorem dX7_mother_23 : decode cX7_mother 23 = .ok (.iconst 1, 1) := by decide +kernel
theorem dX7_mother_24 : decode cX7_mother 24 = .ok (.invokevirtual 235, 3) := by decide +kernel
theorem dX7_mother_27 : decode cX7_mother 27 = .ok (.ireturn, 1) := by decide +kernel
theorem dX7_mother_28 : decode cX7_mother 28 = .ok (.iconst (-1), 1) := by decide +kernel
theorem dX7_mother_29 : decode cX7_mother 29 = .ok (.istore_n 3, 1) := by decide +kernel
theorem dX7_mother_30 : decode cX7_mother 30 = .ok (.sipush 1000, 3) := by decide +kernel
theorem dX7_mother_33 : decode cX7_mother 33 = .ok (.istore 4, 2) := by decide +kernel
theorem dX7_mother_35 : decode cX7_mother 35 = .ok (.iconst 0, 1) := by decide +kernel
theorem dX7_mother_36 : decode cX7_mother 36 = .ok (.istore 5, 2) := by decide +kernel
theorem dX7_mother_38 : decode cX7_mother 38 = .ok (.iload 5, 2) := by decide +kernel
theorem dX7_mother_40 : decode cX7_mother 40 = .ok (.bipush 9, 2) := by decide +kernel
theorem dX7_mother_42 : decode cX7_mother 42 = .ok (.if_icmp .ge 90, 3) := by decide +kernel
theorem dX7_mother_45 : decode cX7_mother 45 = .ok (.aload_n 0, 1) := by decide +kernel
theorem dX7_mother_46 : decode cX7_mother 46 = .ok (.getfield 77, 3) := by decide +kernel
theorem dX7_mother_49 : decode cX7_mother 49 = .ok (.iload_n 1, 1) := by decide +kernel
theorem dX7_mother_50 : decode cX7_mother 50 = .ok (.invokestatic 261, 3) := by decide +kernel
theorem dX7_mother_53 : decode cX7_mother 53 = .ok (.ifCond .ne 79, 3) := by decide +kernel
theorem dX7_mother_56 : decode cX7_mother 56 = .ok (.aload_n 0, 1) := by decide +kernel
theorem dX7_mother_57 : decode cX7_mother 57 = .ok (.iload_n 1, 1) := by decide +kernel
theorem dX7_mother_58 : decode cX7_mother 58 = .ok (.iload 5, 2) := by decide +kernel
theorem dX7_mother_60 : decode cX7_mother 60 = .ok (.invokevirtual 320, 3) := by decide +kernel
theorem dX7_mother_63 : decode cX7_mother 63 = .ok (.ifCond .ne 6, 3) := by decide +kernel
theorem dX7_mother_66 : decode cX7_mother 66 = .ok (.goto 60, 3) := by decide +kernel
theorem dX7_mother_69 : decode cX7_mother 69 = .ok (.aload_n 0, 1) := by decide +kernel
theorem dX7_mother_70 : decode cX7_mother 70 = .ok (.getfield 80, 3) := by decide +kernel
theorem dX7_mother_73 : decode cX7_mother 73 = .ok (.aload_n 0, 1) := by decide +kernel
theorem dX7_mother_74 : decode cX7_mother 74 = .ok (.getfield 77, 3) := by decide +kernel
theorem dX7_mother_77 : decode cX7_mother 77 = .ok (.invokestatic 287, 3) := by decide +kernel
theorem dX7_mother_80 : decode cX7_mother 80 = .ok (.iload 5, 2) := by decide +kernel
theorem dX7_mother_82 : decode cX7_mother 82 = .ok (.ifCond .le 15, 3) := by decide +kernel
theorem dX7_mother_85 : decode cX7_mother 85 = .ok (.aload_n 0, 1) := by decide +kernel
theorem dX7_mother_86 : decode cX7_mother 86 = .ok (.getfield 80, 3) := by decide +kernel
theorem dX7_mother_89 : decode cX7_mother 89 = .ok (.iload_n 1, 1) := by decide +kernel
theorem dX7_mother_90 : decode cX7_mother 90 = .ok (.iload 5, 2) := by decide +kernel
theorem dX7_mother_92 : decode cX7_mother 92 = .ok (.iconst 1, 1) := by decide +kernel
theorem dX7_mother_93 : decode cX7_mother 93 = .ok (.isub, 1) := by decide +kernel
theorem dX7_mother_94 : decode cX7_mother 94 = .ok (.invokestatic 309, 3) := by decide +kernel
theorem dX7_mother_97 : decode cX7_mother 97 = .ok (.aload_n 0, 1) := by decide +kernel
theorem dX7_mother_98 : decode cX7_mother 98 = .ok (.invokevirtual 323, 3) := by decide +kernel
theorem dX7_mother_101 : decode cX7_mother 101 = .ok (.aload_n 0, 1) := by decide +kernel
theorem dX7_mother_102 : decode cX7_mother 102 = .ok (.iload_n 1, 1) := by decide +kernel
theorem dX7_mother_103 : decode cX7_mother 103 = .ok (.invokevirtual 326, 3) := by decide +kernel
theorem dX7_mother_106 : decode cX7_mother 106 = .ok (.iload 4, 2) := by decide +kernel
theorem dX7_mother_108 : decode cX7_mother 108 = .ok (.if_icmp .lt 6, 3) := by decide +kernel
theorem dX7_mother_111 : decode cX7_mother 111 = .ok (.goto 15, 3) := by decide +kernel
theorem dX7_mother_114 : decode cX7_mother 114 = .ok (.aload_n 0, 1) := by decide +kernel
theorem dX7_mother_115 : decode cX7_mother 115 = .ok (.iload_n 1, 1) := by decide +kernel
theorem dX7_mother_116 : decode cX7_mother 116 = .ok (.invokevirtual 326, 3) := by decide +kernel
theorem dX7_mother_119 : decode cX7_mother 119 = .ok (.istore 4, 2) := by decide +kernel
theorem dX7_mother_121 : decode cX7_mother 121 = .ok (.iload 5, 2) := by decide +kernel
theorem dX7_mother_123 : decode cX7_mother 123 = .ok (.iconst 1, 1) := by decide +kernel
theorem dX7_mother_124 : decode cX7_mother 124 = .ok (.isub, 1) := by decide +kernel
theorem dX7_mother_125 : decode cX7_mother 125 = .ok (.istore_n 3, 1) := by decide +kernel
theorem dX7_mother_126 : decode cX7_mother 126 = .ok (.iinc 5 1, 3) := by decide +kernel
theorem dX7_mother_129 : decode cX7_mother 129 = .ok (.goto (-91), 3) := by decide +kernel
theorem dX7_mother_132 : decode cX7_mother 132 = .ok (.iload_n 2, 1) := by decide +kernel
theorem dX7_mother_133 : decode cX7_mother 133 = .ok (.ifCond .ne 7, 3) := by decide +kernel
theorem dX7_mother_136 : decode cX7_mother 136 = .ok (.iload_n 3, 1) := by decide +kernel
theorem dX7_mother_137 : decode cX7_mother 137 = .ok (.goto 17, 3) := by decide +kernel
theorem dX7_mother_140 : decode cX7_mother 140 = .ok (.iload 4, 2) := by decide +kernel
theorem dX7_mother_142 : decode cX7_mother 142 = .ok (.sipush 1000, 3) := by decide +kernel
theorem dX7_mother_145 : decode cX7_mother 145 = .ok (.if_icmp .ne 7, 3) := by decide +kernel
theorem dX7_mother_148 : decode cX7_mother 148 = .ok (.iconst (-1), 1) := by decide +kernel
theorem dX7_mother_149 : decode cX7_mother 149 = .ok (.goto 5, 3) := by decide +kernel
theorem dX7_mother_152 : decode cX7_mother 152 = .ok (.iload 4, 2) := by decide +kernel
theorem dX7_mother_154 : decode cX7_mother 154 = .ok (.ireturn, 1) := by decide +kernel
theorem dX7_isRow_0 : decode cX7_isRow 0 = .ok (.iload_n 1, 1) := by decide +kernel
theorem dX7_isRow_1 : decode cX7_isRow 1 = .ok (.istore_n 2, 1) := by decide +kernel
theorem dX7_isRow_2 : decode cX7_isRow 2 = .ok (.aload_n 0, 1) := by decide +kernel
theorem dX7_isRow_3 : decode cX7_isRow 3 = .ok (.getfield 329, 3) := by decide +kernel
theorem dX7_isRow_6 : decode cX7_isRow 6 = .ok (.iconst 1, 1) := by decide +kernel
theorem dX7_isRow_7 : decode cX7_isRow 7 = .ok (.isub, 1) := by decide +kernel
theorem dX7_isRow_8 : decode cX7_isRow 8 = .ok (.istore_n 3, 1) := by decide +kernel
theorem dX7_isRow_9 : decode cX7_isRow 9 = .ok (.iload_n 3, 1) := by decide +kernel
theorem dX7_isRow_10 : decode cX7_isRow 10 = .ok (.ifCond .lt 33, 3) := by decide +kernel
theorem dX7_isRow_13 : decode cX7_isRow 13 = .ok (.aload_n 0, 1) := by decide +kernel
theorem dX7_isRow_14 : decode cX7_isRow 14 = .ok (.aload_n 0, 1) := by decide +kernel
theorem dX7_isRow_15 : decode cX7_isRow 15 = .ok (.getfield 107, 3) := by decide +kernel
theorem dX7_isRow_18 : decode cX7_isRow 18 = .ok (.iload_n 3, 1) := by decide +kernel
theorem dX7_isRow_19 : decode cX7_isRow 19 = .ok (.iaload, 1) := by decide +kernel
theorem dX7_isRow_20 : decode cX7_isRow 20 = .ok (.iload_n 2, 1) := by decide +kernel
theorem dX7_isRow_21 : decode cX7_isRow 21 = .ok (.bipush 9, 2) := by decide +kernel
theorem dX7_isRow_23 : decode cX7_isRow 23 = .ok (.irem, 1) := by decide +kernel
theorem dX7_isRow_24 : decode cX7_isRow 24 = .ok (.invokevirtual 320, 3) := by decide +kernel
theorem dX7_isRow_27 : decode cX7_isRow 27 = .ok (.ifCond .ne 5, 3) := by decide +kernel
theorem dX7_isRow_30 : decode cX7_isRow 30 = .ok (.iconst 0, 1) := by decide +kernel
theorem dX7_isRow_31 : decode cX7_isRow 31 = .ok (.ireturn, 1) := by decide +kernel
theorem dX7_isRow_32 : decode cX7_isRow 32 = .ok (.iload_n 2, 1) := by decide +kernel
theorem dX7_isRow_33 : decode cX7_isRow 33 = .ok (.bipush 9, 2) := by decide +kernel
theorem dX7_isRow_35 : decode cX7_isRow 35 = .ok (.idiv, 1) := by decide +kernel
theorem dX7_isRow_36 : decode cX7_isRow 36 = .ok (.istore_n 2, 1) := by decide +kernel
theorem dX7_isRow_37 : decode cX7_isRow 37 = .ok (.iinc 3 (-1), 3) := by decide +kernel
theorem dX7_isRow_40 : decode cX7_isRow 40 = .ok (.goto (-31), 3) := by decide +kernel
theorem dX7_isRow_43 : decode cX7_isRow 43 = .ok (.iconst 1, 1) := by decide +kernel
theorem dX7_isRow_44 : decode cX7_isRow 44 = .ok (.ireturn, 1) := by decide +kernel
theorem dX7_powerOf9_0 : decode cX7_powerOf9 0 = .ok (.iconst 1, 1) := by decide +kernel
theorem dX7_powerOf9_1 : decode cX7_powerOf9 1 = .ok (.istore_n 1, 1) := by decide +kernel
theorem dX7_powerOf9_2 : decode cX7_powerOf9 2 = .ok (.iconst 0, 1) := by decide +kernel
theorem dX7_powerOf9_3 : decode cX7_powerOf9 3 = .ok (.istore_n 2, 1) := by decide +kernel
theorem dX7_powerOf9_4 : decode cX7_powerOf9 4 = .ok (.iload_n 2, 1) := by decide +kernel
theorem dX7_powerOf9_5 : decode cX7_powerOf9 5 = .ok (.iload_n 0, 1) := by decide +kernel
theorem dX7_powerOf9_6 : decode cX7_powerOf9 6 = .ok (.if_icmp .ge 14, 3) := by decide +kernel
theorem dX7_powerOf9_9 : decode cX7_powerOf9 9 = .ok (.iload_n 1, 1) := by decide +kernel
theorem dX7_powerOf9_10 : decode cX7_powerOf9 10 = .ok (.bipush 9, 2) := by decide +kernel
theorem dX7_powerOf9_12 : decode cX7_powerOf9 12 = .ok (.imul, 1) := by decide +kernel
theorem dX7_powerOf9_13 : decode cX7_powerOf9 13 = .ok (.istore_n 1, 1) := by decide +kernel
theorem dX7_powerOf9_14 : decode cX7_powerOf9 14 = .ok (.iinc 2 1, 3) := by decide +kernel
theorem dX7_powerOf9_17 : decode cX7_powerOf9 17 = .ok (.goto (-13), 3) := by decide +kernel
theorem dX7_powerOf9_20 : decode cX7_powerOf9 20 = .ok (.iload_n 1, 1) := by decide +kernel
theorem dX7_powerOf9_21 : decode cX7_powerOf9 21 = .ok (.ireturn, 1) := by decide +kernel
theorem dX7_tellRow_0 : decode cX7_tellRow 0 = .ok (.aload_n 0, 1) := by decide +kernel
theorem dX7_tellRow_1 : decode cX7_tellRow 1 = .ok (.getfield 80, 3) := by decide +kernel
theorem dX7_tellRow_4 : decode cX7_tellRow 4 = .ok (.aload_n 0, 1) := by decide +kernel
theorem dX7_tellRow_5 : decode cX7_tellRow 5 = .ok (.getfield 77, 3) := by decide +kernel
theorem dX7_tellRow_8 : decode cX7_tellRow 8 = .ok (.invokestatic 287, 3) := by decide +kernel
theorem dX7_tellRow_11 : decode cX7_tellRow 11 = .ok (.iload_n 1, 1) := by decide +kernel
theorem dX7_tellRow_12 : decode cX7_tellRow 12 = .ok (.istore_n 2, 1) := by decide +kernel
theorem dX7_tellRow_13 : decode cX7_tellRow 13 = .ok (.aload_n 0, 1) := by decide +kernel
theorem dX7_tellRow_14 : decode cX7_tellRow 14 = .ok (.getfield 329, 3) := by decide +kernel
theorem dX7_tellRow_17 : decode cX7_tellRow 17 = .ok (.iconst 1, 1) := by decide +kernel
theorem dX7_tellRow_18 : decode cX7_tellRow 18 = .ok (.isub, 1) := by decide +kernel
theorem dX7_tellRow_19 : decode cX7_tellRow 19 = .ok (.istore_n 3, 1) := by decide +kernel
theorem dX7_tellRow_20 : decode cX7_tellRow 20 = .ok (.iload_n 3, 1) := by decide +kernel
theorem dX7_tellRow_21 : decode cX7_tellRow 21 = .ok (.ifCond .lt 40, 3) := by decide +kernel
theorem dX7_tellRow_24 : decode cX7_tellRow 24 = .ok (.iload_n 2, 1) := by decide +kernel
theorem dX7_tellRow_25 : decode cX7_tellRow 25 = .ok (.bipush 9, 2) := by decide +kernel
theorem dX7_tellRow_27 : decode cX7_tellRow 27 = .ok (.irem, 1) := by decide +kernel
theorem dX7_tellRow_28 : decode cX7_tellRow 28 = .ok (.ifCond .le 22, 3) := by decide +kernel
theorem dX7_tellRow_31 : decode cX7_tellRow 31 = .ok (.aload_n 0, 1) := by decide +kernel
theorem dX7_tellRow_32 : decode cX7_tellRow 32 = .ok (.getfield 80, 3) := by decide +kernel
theorem dX7_tellRow_35 : decode cX7_tellRow 35 = .ok (.aload_n 0, 1) := by decide +kernel
theorem dX7_tellRow_36 : decode cX7_tellRow 36 = .ok (.getfield 107, 3) := by decide +kernel
theorem dX7_tellRow_39 : decode cX7_tellRow 39 = .ok (.iload_n 3, 1) := by decide +kernel
theorem dX7_tellRow_40 : decode cX7_tellRow 40 = .ok (.iaload, 1) := by decide +kernel
theorem dX7_tellRow_41 : decode cX7_tellRow 41 = .ok (.iload_n 2, 1) := by decide +kernel
theorem dX7_tellRow_42 : decode cX7_tellRow 42 = .ok (.bipush 9, 2) := by decide +kernel
theorem dX7_tellRow_44 : decode cX7_tellRow 44 = .ok (.irem, 1) := by decide +kernel
theorem dX7_tellRow_45 : decode cX7_tellRow 45 = .ok (.iconst 1, 1) := by decide +kernel
theorem dX7_tellRow_46 : decode cX7_tellRow 46 = .ok (.isub, 1) := by decide +kernel
theorem dX7_tellRow_47 : decode cX7_tellRow 47 = .ok (.invokestatic 309, 3) := by decide +kernel
theorem dX7_tellRow_50 : decode cX7_tellRow 50 = .ok (.iload_n 2, 1) := by decide +kernel
theorem dX7_tellRow_51 : decode cX7_tellRow 51 = .ok (.bipush 9, 2) := by decide +kernel
theorem dX7_tellRow_53 : decode cX7_tellRow 53 = .ok (.idiv, 1) := by decide +kernel
theorem dX7_tellRow_54 : decode cX7_tellRow 54 = .ok (.istore_n 2, 1) := by decide +kernel
theorem dX7_tellRow_55 : decode cX7_tellRow 55 = .ok (.iinc 3 (-1), 3) := by decide +kernel
theorem dX7_tellRow_58 : decode cX7_tellRow 58 = .ok (.goto (-38), 3) := by decide +kernel
theorem dX7_tellRow_61 : decode cX7_tellRow 61 = .ok (.aload_n 0, 1) := by decide +kernel
theorem dX7_tellRow_62 : decode cX7_tellRow 62 = .ok (.invokevirtual 323, 3) := by decide +kernel
theorem dX7_tellRow_65 : decode cX7_tellRow 65 = .ok (.iconst 0, 1) := by decide +kernel
theorem dX7_tellRow_66 : decode cX7_tellRow 66 = .ok (.istore_n 3, 1) := by decide +kernel
theorem dX7_tellRow_67 : decode cX7_tellRow 67 = .ok (.iload_n 3, 1) := by decide +kernel
theorem dX7_tellRow_68 : decode cX7_tellRow 68 = .ok (.aload_n 0, 1) := by decide +kernel
theorem dX7_tellRow_69 : decode cX7_tellRow 69 = .ok (.getfield 329, 3) := by decide +kernel
theorem dX7_tellRow_72 : decode cX7_tellRow 72 = .ok (.if_icmp .ge 29, 3) := by decide +kernel
end
section
theorem dX7_tellRow_75 : decode cX7_tellRow 75 = .ok (.aload_n 0, 1) := by decide +kernel
theorem dX7_tellRow_76 : decode cX7_tellRow 76 = .ok (.getfield 110, 3) := by decide +kernel
theorem dX7_tellRow_79 : decode cX7_tellRow 79 = .ok (.iconst 3, 1) := by decide +kernel
theorem dX7_tellRow_80 : decode cX7_tellRow 80 = .ok (.iload_n 1, 1) := by decide +kernel
theorem dX7_tellRow_81 : decode cX7_tellRow 81 = .ok (.imul, 1) := by decide +kernel
theorem dX7_tellRow_82 : decode cX7_tellRow 82 = .ok (.iload_n 3, 1) := by decide +kernel
theorem dX7_tellRow_83 : decode cX7_tellRow 83 = .ok (.iadd, 1) := by decide +kernel
theorem dX7_tellRow_84 : decode cX7_tellRow 84 = .ok (.aload_n 0, 1) := by decide +kernel
theorem dX7_tellRow_85 : decode cX7_tellRow 85 = .ok (.aload_n 0, 1) := by decide +kernel
theorem dX7_tellRow_86 : decode cX7_tellRow 86 = .ok (.getfield 107, 3) := by decide +kernel
theorem dX7_tellRow_89 : decode cX7_tellRow 89 = .ok (.iload_n 3, 1) := by decide +kernel
theorem dX7_tellRow_90 : decode cX7_tellRow 90 = .ok (.iaload, 1) := by decide +kernel
theorem dX7_tellRow_91 : decode cX7_tellRow 91 = .ok (.invokevirtual 326, 3) := by decide +kernel
theorem dX7_tellRow_94 : decode cX7_tellRow 94 = .ok (.iastore, 1) := by decide +kernel
theorem dX7_tellRow_95 : decode cX7_tellRow 95 = .ok (.iinc 3 1, 3) := by decide +kernel
theorem dX7_tellRow_98 : decode cX7_tellRow 98 = .ok (.goto (-31), 3) := by decide +kernel
theorem dX7_tellRow_101 : decode cX7_tellRow 101 = .ok (.return_, 1) := by decide +kernel
theorem dX7_rests_0 : decode cX7_rests 0 = .ok (.iconst 0, 1) := by decide +kernel
theorem dX7_rests_1 : decode cX7_rests 1 = .ok (.istore_n 2, 1) := by decide +kernel
theorem dX7_rests_2 : decode cX7_rests 2 = .ok (.iload_n 2, 1) := by decide +kernel
theorem dX7_rests_3 : decode cX7_rests 3 = .ok (.aload_n 0, 1) := by decide +kernel
theorem dX7_rests_4 : decode cX7_rests 4 = .ok (.getfield 329, 3) := by decide +kernel
theorem dX7_rests_7 : decode cX7_rests 7 = .ok (.if_icmp .ge 95, 3) := by decide +kernel
theorem dX7_rests_10 : decode cX7_rests 10 = .ok (.aload_n 0, 1) := by decide +kernel
theorem dX7_rests_11 : decode cX7_rests 11 = .ok (.getfield 329, 3) := by decide +kernel
theorem dX7_rests_14 : decode cX7_rests 14 = .ok (.iconst 1, 1) := by decide +kernel
theorem dX7_rests_15 : decode cX7_rests 15 = .ok (.isub, 1) := by decide +kernel
theorem dX7_rests_16 : decode cX7_rests 16 = .ok (.iload_n 2, 1) := by decide +kernel
theorem dX7_rests_17 : decode cX7_rests 17 = .ok (.isub, 1) := by decide +kernel
theorem dX7_rests_18 : decode cX7_rests 18 = .ok (.invokestatic 332, 3) := by decide +kernel
theorem dX7_rests_21 : decode cX7_rests 21 = .ok (.istore_n 3, 1) := by decide +kernel
theorem dX7_rests_22 : decode cX7_rests 22 = .ok (.iload_n 1, 1) := by decide +kernel
theorem dX7_rests_23 : decode cX7_rests 23 = .ok (.iload_n 1, 1) := by decide +kernel
theorem dX7_rests_24 : decode cX7_rests 24 = .ok (.iload_n 3, 1) := by decide +kernel
theorem dX7_rests_25 : decode cX7_rests 25 = .ok (.idiv, 1) := by decide +kernel
theorem dX7_rests_26 : decode cX7_rests 26 = .ok (.bipush 9, 2) := by decide +kernel
theorem dX7_rests_28 : decode cX7_rests 28 = .ok (.irem, 1) := by decide +kernel
theorem dX7_rests_29 : decode cX7_rests 29 = .ok (.iload_n 3, 1) := by decide +kernel
theorem dX7_rests_30 : decode cX7_rests 30 = .ok (.imul, 1) := by decide +kernel
theorem dX7_rests_31 : decode cX7_rests 31 = .ok (.isub, 1) := by decide +kernel
theorem dX7_rests_32 : decode cX7_rests 32 = .ok (.istore 4, 2) := by decide +kernel
theorem dX7_rests_34 : decode cX7_rests 34 = .ok (.iconst 0, 1) := by decide +kernel
theorem dX7_rests_35 : decode cX7_rests 35 = .ok (.istore 5, 2) := by decide +kernel
theorem dX7_rests_37 : decode cX7_rests 37 = .ok (.iload 5, 2) := by decide +kernel
theorem dX7_rests_39 : decode cX7_rests 39 = .ok (.bipush 9, 2) := by decide +kernel
theorem dX7_rests_41 : decode cX7_rests 41 = .ok (.if_icmp .ge 55, 3) := by decide +kernel
theorem dX7_rests_44 : decode cX7_rests 44 = .ok (.aload_n 0, 1) := by decide +kernel
theorem dX7_rests_45 : decode cX7_rests 45 = .ok (.aload_n 0, 1) := by decide +kernel
theorem dX7_rests_46 : decode cX7_rests 46 = .ok (.getfield 107, 3) := by decide +kernel
theorem dX7_rests_49 : decode cX7_rests 49 = .ok (.iload_n 2, 1) := by decide +kernel
theorem dX7_rests_50 : decode cX7_rests 50 = .ok (.iaload, 1) := by decide +kernel
theorem dX7_rests_51 : decode cX7_rests 51 = .ok (.iload 5, 2) := by decide +kernel
theorem dX7_rests_53 : decode cX7_rests 53 = .ok (.invokevirtual 320, 3) := by decide +kernel
theorem dX7_rests_56 : decode cX7_rests 56 = .ok (.ifCond .eq 34, 3) := by decide +kernel
theorem dX7_rests_59 : decode cX7_rests 59 = .ok (.aload_n 0, 1) := by decide +kernel
theorem dX7_rests_60 : decode cX7_rests 60 = .ok (.getfield 110, 3) := by decide +kernel
theorem dX7_rests_63 : decode cX7_rests 63 = .ok (.iconst 3, 1) := by decide +kernel
theorem dX7_rests_64 : decode cX7_rests 64 = .ok (.iload 4, 2) := by decide +kernel
theorem dX7_rests_66 : decode cX7_rests 66 = .ok (.iload 5, 2) := by decide +kernel
theorem dX7_rests_68 : decode cX7_rests 68 = .ok (.iload_n 3, 1) := by decide +kernel
theorem dX7_rests_69 : decode cX7_rests 69 = .ok (.imul, 1) := by decide +kernel
theorem dX7_rests_70 : decode cX7_rests 70 = .ok (.iadd, 1) := by decide +kernel
theorem dX7_rests_71 : decode cX7_rests 71 = .ok (.imul, 1) := by decide +kernel
theorem dX7_rests_72 : decode cX7_rests 72 = .ok (.iload_n 2, 1) := by decide +kernel
theorem dX7_rests_73 : decode cX7_rests 73 = .ok (.iadd, 1) := by decide +kernel
theorem dX7_rests_74 : decode cX7_rests 74 = .ok (.iaload, 1) := by decide +kernel
theorem dX7_rests_75 : decode cX7_rests 75 = .ok (.aload_n 0, 1) := by decide +kernel
theorem dX7_rests_76 : decode cX7_rests 76 = .ok (.getfield 110, 3) := by decide +kernel
theorem dX7_rests_79 : decode cX7_rests 79 = .ok (.iconst 3, 1) := by decide +kernel
theorem dX7_rests_80 : decode cX7_rests 80 = .ok (.iload_n 1, 1) := by decide +kernel
theorem dX7_rests_81 : decode cX7_rests 81 = .ok (.imul, 1) := by decide +kernel
theorem dX7_rests_82 : decode cX7_rests 82 = .ok (.iload_n 2, 1) := by decide +kernel
theorem dX7_rests_83 : decode cX7_rests 83 = .ok (.iadd, 1) := by decide +kernel
theorem dX7_rests_84 : decode cX7_rests 84 = .ok (.iaload, 1) := by decide +kernel
theorem dX7_rests_85 : decode cX7_rests 85 = .ok (.if_icmp .ge 5, 3) := by decide +kernel
theorem dX7_rests_88 : decode cX7_rests 88 = .ok (.iconst 0, 1) := by decide +kernel
theorem dX7_rests_89 : decode cX7_rests 89 = .ok (.ireturn, 1) := by decide +kernel
theorem dX7_rests_90 : decode cX7_rests 90 = .ok (.iinc 5 1, 3) := by decide +kernel
theorem dX7_rests_93 : decode cX7_rests 93 = .ok (.goto (-56), 3) := by decide +kernel
theorem dX7_rests_96 : decode cX7_rests 96 = .ok (.iinc 2 1, 3) := by decide +kernel
theorem dX7_rests_99 : decode cX7_rests 99 = .ok (.goto (-97), 3) := by decide +kernel
theorem dX7_rests_102 : decode cX7_rests 102 = .ok (.iconst 1, 1) := by decide +kernel
theorem dX7_rests_103 : decode cX7_rests 103 = .ok (.ireturn, 1) := by decide +kernel
theorem dX7_mothers_0 : decode cX7_mothers 0 = .ok (.aload_n 0, 1) := by decide +kernel
theorem dX7_mothers_1 : decode cX7_mothers 1 = .ok (.iconst 0, 1) := by decide +kernel
theorem dX7_mothers_2 : decode cX7_mothers 2 = .ok (.putfield 131, 3) := by decide +kernel
theorem dX7_mothers_5 : decode cX7_mothers 5 = .ok (.iload_n 2, 1) := by decide +kernel
theorem dX7_mothers_6 : decode cX7_mothers 6 = .ok (.ifCond .lt 8, 3) := by decide +kernel
theorem dX7_mothers_9 : decode cX7_mothers 9 = .ok (.iload_n 2, 1) := by decide +kernel
theorem dX7_mothers_10 : decode cX7_mothers 10 = .ok (.iconst 1, 1) := by decide +kernel
theorem dX7_mothers_11 : decode cX7_mothers 11 = .ok (.if_icmp .le 9, 3) := by decide +kernel
theorem dX7_mothers_14 : decode cX7_mothers 14 = .ok (.aload_n 0, 1) := by decide +kernel
theorem dX7_mothers_15 : decode cX7_mothers 15 = .ok (.iconst 1, 1) := by decide +kernel
theorem dX7_mothers_16 : decode cX7_mothers 16 = .ok (.invokevirtual 235, 3) := by decide +kernel
theorem dX7_mothers_19 : decode cX7_mothers 19 = .ok (.ireturn, 1) := by decide +kernel
theorem dX7_mothers_20 : decode cX7_mothers 20 = .ok (.aload_n 0, 1) := by decide +kernel
theorem dX7_mothers_21 : decode cX7_mothers 21 = .ok (.iconst 0, 1) := by decide +kernel
theorem dX7_mothers_22 : decode cX7_mothers 22 = .ok (.putfield 329, 3) := by decide +kernel
theorem dX7_mothers_25 : decode cX7_mothers 25 = .ok (.iload_n 1, 1) := by decide +kernel
theorem dX7_mothers_26 : decode cX7_mothers 26 = .ok (.iconst 1, 1) := by decide +kernel
theorem dX7_mothers_27 : decode cX7_mothers 27 = .ok (.iconst 1, 1) := by decide +kernel
theorem dX7_mothers_28 : decode cX7_mothers 28 = .ok (.aload_n 0, 1) := by decide +kernel
theorem dX7_mothers_29 : decode cX7_mothers 29 = .ok (.getfield 43, 3) := by decide +kernel
theorem dX7_mothers_32 : decode cX7_mothers 32 = .ok (.iconst 1, 1) := by decide +kernel
theorem dX7_mothers_33 : decode cX7_mothers 33 = .ok (.iaload, 1) := by decide +kernel
theorem dX7_mothers_34 : decode cX7_mothers 34 = .ok (.ishl, 1) := by decide +kernel
theorem dX7_mothers_35 : decode cX7_mothers 35 = .ok (.iconst 1, 1) := by decide +kernel
theorem dX7_mothers_36 : decode cX7_mothers 36 = .ok (.isub, 1) := by decide +kernel
theorem dX7_mothers_37 : decode cX7_mothers 37 = .ok (.invokestatic 134, 3) := by decide +kernel
theorem dX7_mothers_40 : decode cX7_mothers 40 = .ok (.ifCond .eq 20, 3) := by decide +kernel
theorem dX7_mothers_43 : decode cX7_mothers 43 = .ok (.iload_n 1, 1) := by decide +kernel
theorem dX7_mothers_44 : decode cX7_mothers 44 = .ok (.aload_n 0, 1) := by decide +kernel
theorem dX7_mothers_45 : decode cX7_mothers 45 = .ok (.aload_n 0, 1) := by decide +kernel
theorem dX7_mothers_46 : decode cX7_mothers 46 = .ok (.getfield 77, 3) := by decide +kernel
theorem dX7_mothers_49 : decode cX7_mothers 49 = .ok (.invokevirtual 302, 3) := by decide +kernel
theorem dX7_mothers_52 : decode cX7_mothers 52 = .ok (.iand, 1) := by decide +kernel
theorem dX7_mothers_53 : decode cX7_mothers 53 = .ok (.ifCond .ne 7, 3) := by decide +kernel
theorem dX7_mothers_56 : decode cX7_mothers 56 = .ok (.iconst 1, 1) := by decide +kernel
theorem dX7_mothers_57 : decode cX7_mothers 57 = .ok (.goto 4, 3) := by decide +kernel
theorem dX7_mothers_60 : decode cX7_mothers 60 = .ok (.iconst 0, 1) := by decide +kernel
theorem dX7_mothers_61 : decode cX7_mothers 61 = .ok (.istore_n 3, 1) := by decide +kernel
theorem dX7_mothers_62 : decode cX7_mothers 62 = .ok (.iconst 0, 1) := by decide +kernel
theorem dX7_mothers_63 : decode cX7_mothers 63 = .ok (.istore 4, 2) := by decide +kernel
theorem dX7_mothers_65 : decode cX7_mothers 65 = .ok (.iload 4, 2) := by decide +kernel
theorem dX7_mothers_67 : decode cX7_mothers 67 = .ok (.aload_n 0, 1) := by decide +kernel
theorem dX7_mothers_68 : decode cX7_mothers 68 = .ok (.getfield 43, 3) := by decide +kernel
theorem dX7_mothers_71 : decode cX7_mothers 71 = .ok (.iconst 1, 1) := by decide +kernel
theorem dX7_mothers_72 : decode cX7_mothers 72 = .ok (.iaload, 1) := by decide +kernel
theorem dX7_mothers_73 : decode cX7_mothers 73 = .ok (.if_icmp .ge 67, 3) := by decide +kernel
theorem dX7_mothers_76 : decode cX7_mothers 76 = .ok (.iload_n 3, 1) := by decide +kernel
theorem dX7_mothers_77 : decode cX7_mothers 77 = .ok (.ifCond .eq 63, 3) := by decide +kernel
theorem dX7_mothers_80 : decode cX7_mothers 80 = .ok (.iload_n 1, 1) := by decide +kernel
theorem dX7_mothers_81 : decode cX7_mothers 81 = .ok (.iload 4, 2) := by decide +kernel
theorem dX7_mothers_83 : decode cX7_mothers 83 = .ok (.ishr, 1) := by decide +kernel
theorem dX7_mothers_84 : decode cX7_mothers 84 = .ok (.iconst 1, 1) := by decide +kernel
theorem dX7_mothers_85 : decode cX7_mothers 85 = .ok (.iand, 1) := by decide +kernel
theorem dX7_mothers_86 : decode cX7_mothers 86 = .ok (.ifCond .ne 6, 3) := by decide +kernel
theorem dX7_mothers_89 : decode cX7_mothers 89 = .ok (.goto 45, 3) := by decide +kernel
theorem dX7_mothers_92 : decode cX7_mothers 92 = .ok (.aload_n 0, 1) := by decide +kernel
theorem dX7_mothers_93 : decode cX7_mothers 93 = .ok (.getfield 329, 3) := by decide +kernel
theorem dX7_mothers_96 : decode cX7_mothers 96 = .ok (.iconst 3, 1) := by decide +kernel
theorem dX7_mothers_97 : decode cX7_mothers 97 = .ok (.if_icmp .ge 7, 3) := by decide +kernel
theorem dX7_mothers_100 : decode cX7_mothers 100 = .ok (.iconst 1, 1) := by decide +kernel
theorem dX7_mothers_101 : decode cX7_mothers 101 = .ok (.goto 4, 3) := by decide +kernel
theorem dX7_mothers_104 : decode cX7_mothers 104 = .ok (.iconst 0, 1) := by decide +kernel
theorem dX7_mothers_105 : decode cX7_mothers 105 = .ok (.istore_n 3, 1) := by decide +kernel
theorem dX7_mothers_106 : decode cX7_mothers 106 = .ok (.iload_n 3, 1) := by decide +kernel
theorem dX7_mothers_107 : decode cX7_mothers 107 = .ok (.ifCond .ne 6, 3) := by decide +kernel
theorem dX7_mothers_110 : decode cX7_mothers 110 = .ok (.goto 24, 3) := by decide +kernel
theorem dX7_mothers_113 : decode cX7_mothers 113 = .ok (.aload_n 0, 1) := by decide +kernel
theorem dX7_mothers_114 : decode cX7_mothers 114 = .ok (.getfield 107, 3) := by decide +kernel
theorem dX7_mothers_117 : decode cX7_mothers 117 = .ok (.aload_n 0, 1) := by decide +kernel
theorem dX7_mothers_118 : decode cX7_mothers 118 = .ok (.getfield 329, 3) := by decide +kernel
theorem dX7_mothers_121 : decode cX7_mothers 121 = .ok (.iload 4, 2) := by decide +kernel
theorem dX7_mothers_123 : decode cX7_mothers 123 = .ok (.iastore, 1) := by decide +kernel
theorem dX7_mothers_124 : decode cX7_mothers 124 = .ok (.aload_n 0, 1) := by decide +kernel
theorem dX7_mothers_125 : decode cX7_mothers 125 = .ok (.dup, 1) := by decide +kernel
theorem dX7_mothers_126 : decode cX7_mothers 126 = .ok (.getfield 329, 3) := by decide +kernel
theorem dX7_mothers_129 : decode cX7_mothers 129 = .ok (.iconst 1, 1) := by decide +kernel
theorem dX7_mothers_130 : decode cX7_mothers 130 = .ok (.iadd, 1) := by decide +kernel
theorem dX7_mothers_131 : decode cX7_mothers 131 = .ok (.putfield 329, 3) := by decide +kernel
theorem dX7_mothers_134 : decode cX7_mothers 134 = .ok (.iinc 4 1, 3) := by decide +kernel
theorem dX7_mothers_137 : decode cX7_mothers 137 = .ok (.goto (-72), 3) := by decide +kernel
theorem dX7_mothers_140 : decode cX7_mothers 140 = .ok (.iload_n 3, 1) := by decide +kernel
theorem dX7_mothers_141 : decode cX7_mothers 141 = .ok (.ifCond .ne 9, 3) := by decide +kernel
theorem dX7_mothers_144 : decode cX7_mothers 144 = .ok (.aload_n 0, 1) := by decide +kernel
theorem dX7_mothers_145 : decode cX7_mothers 145 = .ok (.iconst 2, 1) := by decide +kernel
theorem dX7_mothers_146 : decode cX7_mothers 146 = .ok (.invokevirtual 235, 3) := by decide +kernel
theorem dX7_mothers_149 : decode cX7_mothers 149 = .ok (.ireturn, 1) := by decide +kernel
theorem dX7_mothers_150 : decode cX7_mothers 150 = .ok (.aload_n 0, 1) := by decide +kernel
theorem dX7_mothers_151 : decode cX7_mothers 151 = .ok (.getfield 329, 3) := by decide +kernel
theorem dX7_mothers_154 : decode cX7_mothers 154 = .ok (.invokestatic 332, 3) := by decide +kernel
theorem dX7_mothers_157 : decode cX7_mothers 157 = .ok (.istore 4, 2) := by decide +kernel
theorem dX7_mothers_159 : decode cX7_mothers 159 = .ok (.iconst 0, 1) := by decide +kernel
theorem dX7_mothers_160 : decode cX7_mothers 160 = .ok (.istore 5, 2) := by decide +kernel
theorem dX7_mothers_162 : decode cX7_mothers 162 = .ok (.iload 5, 2) := by decide +kernel
theorem dX7_mothers_164 : decode cX7_mothers 164 = .ok (.iload 4, 2) := by decide +kernel
theorem dX7_mothers_166 : decode cX7_mothers 166 = .ok (.if_icmp .ge 24, 3) := by decide +kernel
theorem dX7_mothers_169 : decode cX7_mothers 169 = .ok (.aload_n 0, 1) := by decide +kernel
theorem dX7_mothers_170 : decode cX7_mothers 170 = .ok (.iload 5, 2) := by decide +kernel
theorem dX7_mothers_172 : decode cX7_mothers 172 = .ok (.invokevirtual 335, 3) := by decide +kernel
theorem dX7_mothers_175 : decode cX7_mothers 175 = .ok (.ifCond .eq 9, 3) := by decide +kernel
theorem dX7_mothers_178 : decode cX7_mothers 178 = .ok (.aload_n 0, 1) := by decide +kernel
theorem dX7_mothers_179 : decode cX7_mothers 179 = .ok (.iload 5, 2) := by decide +kernel
theorem dX7_mothers_181 : decode cX7_mothers 181 = .ok (.invokevirtual 338, 3) := by decide +kernel
theorem dX7_mothers_184 : decode cX7_mothers 184 = .ok (.iinc 5 1, 3) := by decide +kernel
theorem dX7_mothers_187 : decode cX7_mothers 187 = .ok (.goto (-25), 3) := by decide +kernel
theorem dX7_mothers_190 : decode cX7_mothers 190 = .ok (.iconst 0, 1) := by decide +kernel
theorem dX7_mothers_191 : decode cX7_mothers 191 = .ok (.istore 5, 2) := by decide +kernel
theorem dX7_mothers_193 : decode cX7_mothers 193 = .ok (.iconst (-1), 1) := by decide +kernel
theorem dX7_mothers_194 : decode cX7_mothers 194 = .ok (.istore 6, 2) := by decide +kernel
theorem dX7_mothers_196 : decode cX7_mothers 196 = .ok (.iconst 0, 1) := by decide +kernel
theorem dX7_mothers_197 : decode cX7_mothers 197 = .ok (.istore 7, 2) := by decide +kernel
theorem dX7_mothers_199 : decode cX7_mothers 199 = .ok (.iload 7, 2) := by decide +kernel
theorem dX7_mothers_201 : decode cX7_mothers 201 = .ok (.iload 4, 2) := by decide +kernel
theorem dX7_mothers_203 : decode cX7_mothers 203 = .ok (.if_icmp .ge 48, 3) := by decide +kernel
theorem dX7_mothers_206 : decode cX7_mothers 206 = .ok (.aload_n 0, 1) := by decide +kernel
theorem dX7_mothers_207 : decode cX7_mothers 207 = .ok (.iload 7, 2) := by decide +kernel
theorem dX7_mothers_209 : decode cX7_mothers 209 = .ok (.invokevirtual 335, 3) := by decide +kernel
theorem dX7_mothers_212 : decode cX7_mothers 212 = .ok (.ifCond .eq 33, 3) := by decide +kernel
theorem dX7_mothers_215 : decode cX7_mothers 215 = .ok (.aload_n 0, 1) := by decide +kernel
theorem dX7_mothers_216 : decode cX7_mothers 216 = .ok (.iload 7, 2) := by decide +kernel
theorem dX7_mothers_218 : decode cX7_mothers 218 = .ok (.invokevirtual 341, 3) := by decide +kernel
theorem dX7_mothers_221 : decode cX7_mothers 221 = .ok (.ifCond .ne 6, 3) := by decide +kernel
theorem dX7_mothers_224 : decode cX7_mothers 224 = .ok (.goto 21, 3) := by decide +kernel
theorem dX7_mothers_227 : decode cX7_mothers 227 = .ok (.iinc 5 1, 3) := by decide +kernel
theorem dX7_mothers_230 : decode cX7_mothers 230 = .ok (.iload 6, 2) := by decide +kernel
theorem dX7_mothers_232 : decode cX7_mothers 232 = .ok (.iconst (-1), 1) := by decide +kernel
theorem dX7_mothers_233 : decode cX7_mothers 233 = .ok (.if_icmp .ne 8, 3) := by decide +kernel
theorem dX7_mothers_236 : decode cX7_mothers 236 = .ok (.iload 7, 2) := by decide +kernel
theorem dX7_mothers_238 : decode cX7_mothers 238 = .ok (.goto 5, 3) := by decide +kernel
theorem dX7_mothers_241 : decode cX7_mothers 241 = .ok (.iload 6, 2) := by decide +kernel
theorem dX7_mothers_243 : decode cX7_mothers 243 = .ok (.istore 6, 2) := by decide +kernel
theorem dX7_mothers_245 : decode cX7_mothers 245 = .ok (.iinc 7 1, 3) := by decide +kernel
theorem dX7_mothers_248 : decode cX7_mothers 248 = .ok (.goto (-49), 3) := by decide +kernel
theorem dX7_mothers_251 : decode cX7_mothers 251 = .ok (.iload_n 2, 1) := by decide +kernel
theorem dX7_mothers_252 : decode cX7_mothers 252 = .ok (.ifCond .ne 8, 3) := by decide +kernel
theorem dX7_mothers_255 : decode cX7_mothers 255 = .ok (.iload 5, 2) := by decide +kernel
theorem dX7_mothers_257 : decode cX7_mothers 257 = .ok (.goto 19, 3) := by decide +kernel
theorem dX7_mothers_260 : decode cX7_mothers 260 = .ok (.iload 6, 2) := by decide +kernel
theorem dX7_mothers_262 : decode cX7_mothers 262 = .ok (.iconst (-1), 1) := by decide +kernel
theorem dX7_mothers_263 : decode cX7_mothers 263 = .ok (.if_icmp .ne 7, 3) := by decide +kernel
theorem dX7_mothers_266 : decode cX7_mothers 266 = .ok (.iconst (-1), 1) := by decide +kernel
theorem dX7_mothers_267 : decode cX7_mothers 267 = .ok (.goto 9, 3) := by decide +kernel
theorem dX7_mothers_270 : decode cX7_mothers 270 = .ok (.aload_n 0, 1) := by decide +kernel
theorem dX7_mothers_271 : decode cX7_mothers 271 = .ok (.iload 6, 2) := by decide +kernel
theorem dX7_mothers_273 : decode cX7_mothers 273 = .ok (.invokevirtual 344, 3) := by decide +kernel
theorem dX7_mothers_276 : decode cX7_mothers 276 = .ok (.ireturn, 1) := by decide +kernel
theorem dX7_byTens_0 : decode cX7_byTens 0 = .ok (.iconst 0, 1) := by decide +kernel
theorem dX7_byTens_1 : decode cX7_byTens 1 = .ok (.istore_n 2, 1) := by decide +kernel
theorem dX7_byTens_2 : decode cX7_byTens 2 = .ok (.iconst 0, 1) := by decide +kernel
theorem dX7_byTens_3 : decode cX7_byTens 3 = .ok (.istore_n 3, 1) := by decide +kernel
theorem dX7_byTens_4 : decode cX7_byTens 4 = .ok (.iload_n 3, 1) := by decide +kernel
theorem dX7_byTens_5 : decode cX7_byTens 5 = .ok (.aload_n 0, 1) := by decide +kernel
theorem dX7_byTens_6 : decode cX7_byTens 6 = .ok (.getfield 329, 3) := by decide +kernel
theorem dX7_byTens_9 : decode cX7_byTens 9 = .ok (.if_icmp .ge 31, 3) := by decide +kernel
theorem dX7_byTens_12 : decode cX7_byTens 12 = .ok (.bipush 10, 2) := by decide +kernel
theorem dX7_byTens_14 : decode cX7_byTens 14 = .ok (.iload_n 2, 1) := by decide +kernel
theorem dX7_byTens_15 : decode cX7_byTens 15 = .ok (.imul, 1) := by decide +kernel
theorem dX7_byTens_16 : decode cX7_byTens 16 = .ok (.iload_n 1, 1) := by decide +kernel
theorem dX7_byTens_17 : decode cX7_byTens 17 = .ok (.aload_n 0, 1) := by decide +kernel
theorem dX7_byTens_18 : decode cX7_byTens 18 = .ok (.getfield 329, 3) := by decide +kernel
theorem dX7_byTens_21 : decode cX7_byTens 21 = .ok (.iconst 1, 1) := by decide +kernel
theorem dX7_byTens_22 : decode cX7_byTens 22 = .ok (.isub, 1) := by decide +kernel
theorem dX7_byTens_23 : decode cX7_byTens 23 = .ok (.iload_n 3, 1) := by decide +kernel
theorem dX7_byTens_24 : decode cX7_byTens 24 = .ok (.isub, 1) := by decide +kernel
theorem dX7_byTens_25 : decode cX7_byTens 25 = .ok (.invokestatic 332, 3) := by decide +kernel
theorem dX7_byTens_28 : decode cX7_byTens 28 = .ok (.idiv, 1) := by decide +kernel
theorem dX7_byTens_29 : decode cX7_byTens 29 = .ok (.bipush 9, 2) := by decide +kernel
theorem dX7_byTens_31 : decode cX7_byTens 31 = .ok (.irem, 1) := by decide +kernel
theorem dX7_byTens_32 : decode cX7_byTens 32 = .ok (.iadd, 1) := by decide +kernel
theorem dX7_byTens_33 : decode cX7_byTens 33 = .ok (.istore_n 2, 1) := by decide +kernel
theorem dX7_byTens_34 : decode cX7_byTens 34 = .ok (.iinc 3 1, 3) := by decide +kernel
theorem dX7_byTens_37 : decode cX7_byTens 37 = .ok (.goto (-33), 3) := by decide +kernel
theorem dX7_byTens_40 : decode cX7_byTens 40 = .ok (.iload_n 2, 1) := by decide +kernel
theorem dX7_byTens_41 : decode cX7_byTens 41 = .ok (.ireturn, 1) := by decide +kernel
theorem dX7_movesTo_0 : decode cX7_movesTo 0 = .ok (.aload_n 0, 1) := by decide +kernel
theorem dX7_movesTo_1 : decode cX7_movesTo 1 = .ok (.aload_n 1, 1) := by decide +kernel
theorem dX7_movesTo_2 : decode cX7_movesTo 2 = .ok (.iload_n 2, 1) := by decide +kernel
theorem dX7_movesTo_3 : decode cX7_movesTo 3 = .ok (.iload_n 3, 1) := by decide +kernel
theorem dX7_movesTo_4 : decode cX7_movesTo 4 = .ok (.iload 4, 2) := by decide +kernel
theorem dX7_movesTo_6 : decode cX7_movesTo 6 = .ok (.iconst 0, 1) := by decide +kernel
theorem dX7_movesTo_7 : decode cX7_movesTo 7 = .ok (.invokevirtual 291, 3) := by decide +kernel
theorem dX7_movesTo_10 : decode cX7_movesTo 10 = .ok (.iconst 0, 1) := by decide +kernel
theorem dX7_movesTo_11 : decode cX7_movesTo 11 = .ok (.istore 7, 2) := by decide +kernel
theorem dX7_movesTo_13 : decode cX7_movesTo 13 = .ok (.iload 7, 2) := by decide +kernel
theorem dX7_movesTo_15 : decode cX7_movesTo 15 = .ok (.iconst 3, 1) := by decide +kernel
theorem dX7_movesTo_16 : decode cX7_movesTo 16 = .ok (.if_icmp .ge 33, 3) := by decide +kernel
theorem dX7_movesTo_19 : decode cX7_movesTo 19 = .ok (.aload_n 0, 1) := by decide +kernel
theorem dX7_movesTo_20 : decode cX7_movesTo 20 = .ok (.getfield 89, 3) := by decide +kernel
theorem dX7_movesTo_23 : decode cX7_movesTo 23 = .ok (.iload 7, 2) := by decide +kernel
theorem dX7_movesTo_25 : decode cX7_movesTo 25 = .ok (.iaload, 1) := by decide +kernel
theorem dX7_movesTo_26 : decode cX7_movesTo 26 = .ok (.aload 5, 2) := by decide +kernel
theorem dX7_movesTo_28 : decode cX7_movesTo 28 = .ok (.iload 6, 2) := by decide +kernel
theorem dX7_movesTo_30 : decode cX7_movesTo 30 = .ok (.iconst 3, 1) := by decide +kernel
theorem dX7_movesTo_31 : decode cX7_movesTo 31 = .ok (.iload_n 3, 1) := by decide +kernel
theorem dX7_movesTo_32 : decode cX7_movesTo 32 = .ok (.imul, 1) := by decide +kernel
theorem dX7_movesTo_33 : decode cX7_movesTo 33 = .ok (.iadd, 1) := by decide +kernel
theorem dX7_movesTo_34 : decode cX7_movesTo 34 = .ok (.iload 7, 2) := by decide +kernel
theorem dX7_movesTo_36 : decode cX7_movesTo 36 = .ok (.iadd, 1) := by decide +kernel
theorem dX7_movesTo_37 : decode cX7_movesTo 37 = .ok (.iaload, 1) := by decide +kernel
theorem dX7_movesTo_38 : decode cX7_movesTo 38 = .ok (.if_icmp .eq 5, 3) := by decide +kernel
theorem dX7_movesTo_41 : decode cX7_movesTo 41 = .ok (.iconst 0, 1) := by decide +kernel
theorem dX7_movesTo_42 : decode cX7_movesTo 42 = .ok (.ireturn, 1) := by decide +kernel
theorem dX7_movesTo_43 : decode cX7_movesTo 43 = .ok (.iinc 7 1, 3) := by decide +kernel
theorem dX7_movesTo_46 : decode cX7_movesTo 46 = .ok (.goto (-33), 3) := by decide +kernel
theorem dX7_movesTo_49 : decode cX7_movesTo 49 = .ok (.iconst 1, 1) := by decide +kernel
theorem dX7_movesTo_50 : decode cX7_movesTo 50 = .ok (.ireturn, 1) := by decide +kernel
theorem dX7_mayOf_0 : decode cX7_mayOf 0 = .ok (.iconst 0, 1) := by decide +kernel
theorem dX7_mayOf_1 : decode cX7_mayOf 1 = .ok (.istore_n 2, 1) := by decide +kernel
theorem dX7_mayOf_2 : decode cX7_mayOf 2 = .ok (.iconst 0, 1) := by decide +kernel
theorem dX7_mayOf_3 : decode cX7_mayOf 3 = .ok (.istore_n 3, 1) := by decide +kernel
theorem dX7_mayOf_4 : decode cX7_mayOf 4 = .ok (.iload_n 3, 1) := by decide +kernel
theorem dX7_mayOf_5 : decode cX7_mayOf 5 = .ok (.aload_n 0, 1) := by decide +kernel
theorem dX7_mayOf_6 : decode cX7_mayOf 6 = .ok (.getfield 43, 3) := by decide +kernel
theorem dX7_mayOf_9 : decode cX7_mayOf 9 = .ok (.iconst 1, 1) := by decide +kernel
theorem dX7_mayOf_10 : decode cX7_mayOf 10 = .ok (.iaload, 1) := by decide +kernel
theorem dX7_mayOf_11 : decode cX7_mayOf 11 = .ok (.if_icmp .gt 60, 3) := by decide +kernel
theorem dX7_mayOf_14 : decode cX7_mayOf 14 = .ok (.iload_n 3, 1) := by decide +kernel
theorem dX7_mayOf_15 : decode cX7_mayOf 15 = .ok (.aload_n 0, 1) := by decide +kernel
theorem dX7_mayOf_16 : decode cX7_mayOf 16 = .ok (.getfield 43, 3) := by decide +kernel
theorem dX7_mayOf_19 : decode cX7_mayOf 19 = .ok (.iconst 1, 1) := by decide +kernel
theorem dX7_mayOf_20 : decode cX7_mayOf 20 = .ok (.iaload, 1) := by decide +kernel
theorem dX7_mayOf_21 : decode cX7_mayOf 21 = .ok (.if_icmp .ne 7, 3) := by decide +kernel
theorem dX7_mayOf_24 : decode cX7_mayOf 24 = .ok (.iconst (-1), 1) := by decide +kernel
theorem dX7_mayOf_25 : decode cX7_mayOf 25 = .ok (.goto 4, 3) := by decide +kernel
theorem dX7_mayOf_28 : decode cX7_mayOf 28 = .ok (.iload_n 3, 1) := by decide +kernel
theorem dX7_mayOf_29 : decode cX7_mayOf 29 = .ok (.istore 4, 2) := by decide +kernel
theorem dX7_mayOf_31 : decode cX7_mayOf 31 = .ok (.iload 4, 2) := by decide +kernel
theorem dX7_mayOf_33 : decode cX7_mayOf 33 = .ok (.iload_n 1, 1) := by decide +kernel
theorem dX7_mayOf_34 : decode cX7_mayOf 34 = .ok (.if_icmp .eq 31, 3) := by decide +kernel
theorem dX7_mayOf_37 : decode cX7_mayOf 37 = .ok (.aload_n 0, 1) := by decide +kernel
theorem dX7_mayOf_38 : decode cX7_mayOf 38 = .ok (.iload_n 1, 1) := by decide +kernel
theorem dX7_mayOf_39 : decode cX7_mayOf 39 = .ok (.iload 4, 2) := by decide +kernel
theorem dX7_mayOf_41 : decode cX7_mayOf 41 = .ok (.invokevirtual 347, 3) := by decide +kernel
theorem dX7_mayOf_44 : decode cX7_mayOf 44 = .ok (.ifCond .eq 21, 3) := by decide +kernel
theorem dX7_mayOf_47 : decode cX7_mayOf 47 = .ok (.iload_n 2, 1) := by decide +kernel
theorem dX7_mayOf_48 : decode cX7_mayOf 48 = .ok (.iload 4, 2) := by decide +kernel
theorem dX7_mayOf_50 : decode cX7_mayOf 50 = .ok (.iconst (-1), 1) := by decide +kernel
theorem dX7_mayOf_51 : decode cX7_mayOf 51 = .ok (.if_icmp .ne 8, 3) := by decide +kernel
theorem dX7_mayOf_54 : decode cX7_mayOf 54 = .ok (.bipush 64, 2) := by decide +kernel
theorem dX7_mayOf_56 : decode cX7_mayOf 56 = .ok (.goto 7, 3) := by decide +kernel
theorem dX7_mayOf_59 : decode cX7_mayOf 59 = .ok (.iconst 1, 1) := by decide +kernel
theorem dX7_mayOf_60 : decode cX7_mayOf 60 = .ok (.iload 4, 2) := by decide +kernel
theorem dX7_mayOf_62 : decode cX7_mayOf 62 = .ok (.ishl, 1) := by decide +kernel
theorem dX7_mayOf_63 : decode cX7_mayOf 63 = .ok (.ior, 1) := by decide +kernel
theorem dX7_mayOf_64 : decode cX7_mayOf 64 = .ok (.istore_n 2, 1) := by decide +kernel
theorem dX7_mayOf_65 : decode cX7_mayOf 65 = .ok (.iinc 3 1, 3) := by decide +kernel
theorem dX7_mayOf_68 : decode cX7_mayOf 68 = .ok (.goto (-64), 3) := by decide +kernel
theorem dX7_mayOf_71 : decode cX7_mayOf 71 = .ok (.iload_n 2, 1) := by decide +kernel
theorem dX7_mayOf_72 : decode cX7_mayOf 72 = .ok (.ireturn, 1) := by decide +kernel
theorem dX7_fitsBook_0 : decode cX7_fitsBook 0 = .ok (.iconst 0, 1) := by decide +kernel
theorem dX7_fitsBook_1 : decode cX7_fitsBook 1 = .ok (.istore_n 3, 1) := by decide +kernel
theorem dX7_fitsBook_2 : decode cX7_fitsBook 2 = .ok (.iload_n 3, 1) := by decide +kernel
theorem dX7_fitsBook_3 : decode cX7_fitsBook 3 = .ok (.aload_n 0, 1) := by decide +kernel
theorem dX7_fitsBook_4 : decode cX7_fitsBook 4 = .ok (.getfield 248, 3) := by decide +kernel
theorem dX7_fitsBook_7 : decode cX7_fitsBook 7 = .ok (.if_icmp .ge 133, 3) := by decide +kernel
theorem dX7_fitsBook_10 : decode cX7_fitsBook 10 = .ok (.aload_n 0, 1) := by decide +kernel
theorem dX7_fitsBook_11 : decode cX7_fitsBook 11 = .ok (.getfield 98, 3) := by decide +kernel
theorem dX7_fitsBook_14 : decode cX7_fitsBook 14 = .ok (.iload_n 3, 1) := by decide +kernel
theorem dX7_fitsBook_15 : decode cX7_fitsBook 15 = .ok (.iaload, 1) := by decide +kernel
theorem dX7_fitsBook_16 : decode cX7_fitsBook 16 = .ok (.iload_n 1, 1) := by decide +kernel
theorem dX7_fitsBook_17 : decode cX7_fitsBook 17 = .ok (.ishr, 1) := by decide +kernel
theorem dX7_fitsBook_18 : decode cX7_fitsBook 18 = .ok (.iconst 1, 1) := by decide +kernel
theorem dX7_fitsBook_19 : decode cX7_fitsBook 19 = .ok (.iand, 1) := by decide +kernel
theorem dX7_fitsBook_20 : decode cX7_fitsBook 20 = .ok (.iconst 1, 1) := by decide +kernel
theorem dX7_fitsBook_21 : decode cX7_fitsBook 21 = .ok (.if_icmp .ne 6, 3) := by decide +kernel
theorem dX7_fitsBook_24 : decode cX7_fitsBook 24 = .ok (.goto 110, 3) := by decide +kernel
theorem dX7_fitsBook_27 : decode cX7_fitsBook 27 = .ok (.iconst 0, 1) := by decide +kernel
theorem dX7_fitsBook_28 : decode cX7_fitsBook 28 = .ok (.istore 4, 2) := by decide +kernel
theorem dX7_fitsBook_30 : decode cX7_fitsBook 30 = .ok (.iload 4, 2) := by decide +kernel
theorem dX7_fitsBook_32 : decode cX7_fitsBook 32 = .ok (.bipush 18, 2) := by decide +kernel
theorem dX7_fitsBook_34 : decode cX7_fitsBook 34 = .ok (.if_icmp .ge 28, 3) := by decide +kernel
theorem dX7_fitsBook_37 : decode cX7_fitsBook 37 = .ok (.aload_n 0, 1) := by decide +kernel
theorem dX7_fitsBook_38 : decode cX7_fitsBook 38 = .ok (.getfield 80, 3) := by decide +kernel
theorem dX7_fitsBook_41 : decode cX7_fitsBook 41 = .ok (.iload 4, 2) := by decide +kernel
theorem dX7_fitsBook_43 : decode cX7_fitsBook 43 = .ok (.aload_n 0, 1) := by decide +kernel
theorem dX7_fitsBook_44 : decode cX7_fitsBook 44 = .ok (.getfield 92, 3) := by decide +kernel
theorem dX7_fitsBook_47 : decode cX7_fitsBook 47 = .ok (.bipush 18, 2) := by decide +kernel
theorem dX7_fitsBook_49 : decode cX7_fitsBook 49 = .ok (.iload_n 3, 1) := by decide +kernel
theorem dX7_fitsBook_50 : decode cX7_fitsBook 50 = .ok (.imul, 1) := by decide +kernel
theorem dX7_fitsBook_51 : decode cX7_fitsBook 51 = .ok (.iload 4, 2) := by decide +kernel
theorem dX7_fitsBook_53 : decode cX7_fitsBook 53 = .ok (.iadd, 1) := by decide +kernel
theorem dX7_fitsBook_54 : decode cX7_fitsBook 54 = .ok (.iaload, 1) := by decide +kernel
theorem dX7_fitsBook_55 : decode cX7_fitsBook 55 = .ok (.iastore, 1) := by decide +kernel
theorem dX7_fitsBook_56 : decode cX7_fitsBook 56 = .ok (.iinc 4 1, 3) := by decide +kernel
theorem dX7_fitsBook_59 : decode cX7_fitsBook 59 = .ok (.goto (-29), 3) := by decide +kernel
theorem dX7_fitsBook_62 : decode cX7_fitsBook 62 = .ok (.iconst 0, 1) := by decide +kernel
theorem dX7_fitsBook_63 : decode cX7_fitsBook 63 = .ok (.istore 4, 2) := by decide +kernel
theorem dX7_fitsBook_65 : decode cX7_fitsBook 65 = .ok (.iload 4, 2) := by decide +kernel
theorem dX7_fitsBook_67 : decode cX7_fitsBook 67 = .ok (.bipush 6, 2) := by decide +kernel
theorem dX7_fitsBook_69 : decode cX7_fitsBook 69 = .ok (.if_icmp .ge 39, 3) := by decide +kernel
theorem dX7_fitsBook_72 : decode cX7_fitsBook 72 = .ok (.aload_n 0, 1) := by decide +kernel
theorem dX7_fitsBook_73 : decode cX7_fitsBook 73 = .ok (.getfield 80, 3) := by decide +kernel
theorem dX7_fitsBook_76 : decode cX7_fitsBook 76 = .ok (.bipush 18, 2) := by decide +kernel
theorem dX7_fitsBook_78 : decode cX7_fitsBook 78 = .ok (.iload 4, 2) := by decide +kernel
theorem dX7_fitsBook_80 : decode cX7_fitsBook 80 = .ok (.iadd, 1) := by decide +kernel
theorem dX7_fitsBook_81 : decode cX7_fitsBook 81 = .ok (.aload_n 0, 1) := by decide +kernel
theorem dX7_fitsBook_82 : decode cX7_fitsBook 82 = .ok (.getfield 98, 3) := by decide +kernel
theorem dX7_fitsBook_85 : decode cX7_fitsBook 85 = .ok (.iload_n 3, 1) := by decide +kernel
theorem dX7_fitsBook_86 : decode cX7_fitsBook 86 = .ok (.iaload, 1) := by decide +kernel
theorem dX7_fitsBook_87 : decode cX7_fitsBook 87 = .ok (.iload 4, 2) := by decide +kernel
theorem dX7_fitsBook_89 : decode cX7_fitsBook 89 = .ok (.ishr, 1) := by decide +kernel
theorem dX7_fitsBook_90 : decode cX7_fitsBook 90 = .ok (.iconst 1, 1) := by decide +kernel
theorem dX7_fitsBook_91 : decode cX7_fitsBook 91 = .ok (.iand, 1) := by decide +kernel
theorem dX7_fitsBook_92 : decode cX7_fitsBook 92 = .ok (.iconst 1, 1) := by decide +kernel
theorem dX7_fitsBook_93 : decode cX7_fitsBook 93 = .ok (.if_icmp .ne 7, 3) := by decide +kernel
theorem dX7_fitsBook_96 : decode cX7_fitsBook 96 = .ok (.iconst 0, 1) := by decide +kernel
theorem dX7_fitsBook_97 : decode cX7_fitsBook 97 = .ok (.goto 4, 3) := by decide +kernel
theorem dX7_fitsBook_100 : decode cX7_fitsBook 100 = .ok (.iconst (-1), 1) := by decide +kernel
theorem dX7_fitsBook_101 : decode cX7_fitsBook 101 = .ok (.iastore, 1) := by decide +kernel
theorem dX7_fitsBook_102 : decode cX7_fitsBook 102 = .ok (.iinc 4 1, 3) := by decide +kernel
theorem dX7_fitsBook_105 : decode cX7_fitsBook 105 = .ok (.goto (-40), 3) := by decide +kernel
theorem dX7_fitsBook_108 : decode cX7_fitsBook 108 = .ok (.aload_n 0, 1) := by decide +kernel
theorem dX7_fitsBook_109 : decode cX7_fitsBook 109 = .ok (.aload_n 0, 1) := by decide +kernel
theorem dX7_fitsBook_110 : decode cX7_fitsBook 110 = .ok (.getfield 80, 3) := by decide +kernel
theorem dX7_fitsBook_113 : decode cX7_fitsBook 113 = .ok (.iload_n 3, 1) := by decide +kernel
theorem dX7_fitsBook_114 : decode cX7_fitsBook 114 = .ok (.iload_n 1, 1) := by decide +kernel
theorem dX7_fitsBook_115 : decode cX7_fitsBook 115 = .ok (.iload_n 2, 1) := by decide +kernel
theorem dX7_fitsBook_116 : decode cX7_fitsBook 116 = .ok (.aload_n 0, 1) := by decide +kernel
theorem dX7_fitsBook_117 : decode cX7_fitsBook 117 = .ok (.getfield 95, 3) := by decide +kernel
theorem dX7_fitsBook_120 : decode cX7_fitsBook 120 = .ok (.bipush 18, 2) := by decide +kernel
theorem dX7_fitsBook_122 : decode cX7_fitsBook 122 = .ok (.iload_n 3, 1) := by decide +kernel
theorem dX7_fitsBook_123 : decode cX7_fitsBook 123 = .ok (.iconst 1, 1) := by decide +kernel
theorem dX7_fitsBook_124 : decode cX7_fitsBook 124 = .ok (.iadd, 1) := by decide +kernel
theorem dX7_fitsBook_125 : decode cX7_fitsBook 125 = .ok (.imul, 1) := by decide +kernel
theorem dX7_fitsBook_126 : decode cX7_fitsBook 126 = .ok (.invokevirtual 350, 3) := by decide +kernel
theorem dX7_fitsBook_129 : decode cX7_fitsBook 129 = .ok (.ifCond .ne 5, 3) := by decide +kernel
theorem dX7_fitsBook_132 : decode cX7_fitsBook 132 = .ok (.iconst 0, 1) := by decide +kernel
theorem dX7_fitsBook_133 : decode cX7_fitsBook 133 = .ok (.ireturn, 1) := by decide +kernel
theorem dX7_fitsBook_134 : decode cX7_fitsBook 134 = .ok (.iinc 3 1, 3) := by decide +kernel
theorem dX7_fitsBook_137 : decode cX7_fitsBook 137 = .ok (.goto (-135), 3) := by decide +kernel
theorem dX7_fitsBook_140 : decode cX7_fitsBook 140 = .ok (.iconst 1, 1) := by decide +kernel
theorem dX7_fitsBook_141 : decode cX7_fitsBook 141 = .ok (.ireturn, 1) := by decide +kernel
theorem dX7_may_0 : decode cX7_may 0 = .ok (.aload_n 0, 1) := by decide +kernel
theorem dX7_may_1 : decode cX7_may 1 = .ok (.iconst 0, 1) := by decide +kernel
theorem dX7_may_2 : decode cX7_may 2 = .ok (.putfield 131, 3) := by decide +kernel
theorem dX7_may_5 : decode cX7_may 5 = .ok (.aload_n 0, 1) := by decide +kernel
theorem dX7_may_6 : decode cX7_may 6 = .ok (.iload_n 1, 1) := by decide +kernel
theorem dX7_may_7 : decode cX7_may 7 = .ok (.invokevirtual 299, 3) := by decide +kernel
theorem dX7_may_10 : decode cX7_may 10 = .ok (.ifCond .eq 11, 3) := by decide +kernel
theorem dX7_may_13 : decode cX7_may 13 = .ok (.aload_n 0, 1) := by decide +kernel
theorem dX7_may_14 : decode cX7_may 14 = .ok (.iload_n 1, 1) := by decide +kernel
theorem dX7_may_15 : decode cX7_may 15 = .ok (.invokevirtual 354, 3) := by decide +kernel
theorem dX7_may_18 : decode cX7_may 18 = .ok (.goto 8, 3) := by decide +kernel
theorem dX7_may_21 : decode cX7_may 21 = .ok (.aload_n 0, 1) := by decide +kernel
theorem dX7_may_22 : decode cX7_may 22 = .ok (.iconst 1, 1) := by decide +kernel
theorem dX7_may_23 : decode cX7_may 23 = .ok (.invokevirtual 235, 3) := by decide +kernel
theorem dX7_may_26 : decode cX7_may 26 = .ok (.ireturn, 1) := by decide +kernel
theorem dX7_leftBy_0 : decode cX7_leftBy 0 = .ok (.iconst 0, 1) := by decide +kernel
theorem dX7_leftBy_1 : decode cX7_leftBy 1 = .ok (.istore 4, 2) := by decide +kernel
theorem dX7_leftBy_3 : decode cX7_leftBy 3 = .ok (.iconst 0, 1) := by decide +kernel
theorem dX7_leftBy_4 : decode cX7_leftBy 4 = .ok (.istore 5, 2) := by decide +kernel
theorem dX7_leftBy_6 : decode cX7_leftBy 6 = .ok (.iload 5, 2) := by decide +kernel
theorem dX7_leftBy_8 : decode cX7_leftBy 8 = .ok (.aload_n 0, 1) := by decide +kernel
theorem dX7_leftBy_9 : decode cX7_leftBy 9 = .ok (.getfield 43, 3) := by decide +kernel
theorem dX7_leftBy_12 : decode cX7_leftBy 12 = .ok (.iconst 1, 1) := by decide +kernel
theorem dX7_leftBy_13 : decode cX7_leftBy 13 = .ok (.iaload, 1) := by decide +kernel
theorem dX7_leftBy_14 : decode cX7_leftBy 14 = .ok (.if_icmp .gt 95, 3) := by decide +kernel
theorem dX7_leftBy_17 : decode cX7_leftBy 17 = .ok (.iload_n 3, 1) := by decide +kernel
theorem dX7_leftBy_18 : decode cX7_leftBy 18 = .ok (.iload 5, 2) := by decide +kernel
theorem dX7_leftBy_20 : decode cX7_leftBy 20 = .ok (.aload_n 0, 1) := by decide +kernel
theorem dX7_leftBy_21 : decode cX7_leftBy 21 = .ok (.getfield 43, 3) := by decide +kernel
theorem dX7_leftBy_24 : decode cX7_leftBy 24 = .ok (.iconst 1, 1) := by decide +kernel
theorem dX7_leftBy_25 : decode cX7_leftBy 25 = .ok (.iaload, 1) := by decide +kernel
theorem dX7_leftBy_26 : decode cX7_leftBy 26 = .ok (.if_icmp .ne 8, 3) := by decide +kernel
theorem dX7_leftBy_29 : decode cX7_leftBy 29 = .ok (.bipush 64, 2) := by decide +kernel
theorem dX7_leftBy_31 : decode cX7_leftBy 31 = .ok (.goto 7, 3) := by decide +kernel
theorem dX7_leftBy_34 : decode cX7_leftBy 34 = .ok (.iconst 1, 1) := by decide +kernel
theorem dX7_leftBy_35 : decode cX7_leftBy 35 = .ok (.iload 5, 2) := by decide +kernel
theorem dX7_leftBy_37 : decode cX7_leftBy 37 = .ok (.ishl, 1) := by decide +kernel
theorem dX7_leftBy_38 : decode cX7_leftBy 38 = .ok (.iand, 1) := by decide +kernel
theorem dX7_leftBy_39 : decode cX7_leftBy 39 = .ok (.ifCond .eq 7, 3) := by decide +kernel
theorem dX7_leftBy_42 : decode cX7_leftBy 42 = .ok (.iconst 1, 1) := by decide +kernel
theorem dX7_leftBy_43 : decode cX7_leftBy 43 = .ok (.goto 4, 3) := by decide +kernel
theorem dX7_leftBy_46 : decode cX7_leftBy 46 = .ok (.iconst 0, 1) := by decide +kernel
theorem dX7_leftBy_47 : decode cX7_leftBy 47 = .ok (.istore 6, 2) := by decide +kernel
theorem dX7_leftBy_49 : decode cX7_leftBy 49 = .ok (.iload 6, 2) := by decide +kernel
theorem dX7_leftBy_51 : decode cX7_leftBy 51 = .ok (.ifCond .eq 52, 3) := by decide +kernel
theorem dX7_leftBy_54 : decode cX7_leftBy 54 = .ok (.aload_n 0, 1) := by decide +kernel
theorem dX7_leftBy_55 : decode cX7_leftBy 55 = .ok (.getfield 113, 3) := by decide +kernel
theorem dX7_leftBy_58 : decode cX7_leftBy 58 = .ok (.iload_n 2, 1) := by decide +kernel
theorem dX7_leftBy_59 : decode cX7_leftBy 59 = .ok (.invokestatic 261, 3) := by decide +kernel
theorem dX7_leftBy_62 : decode cX7_leftBy 62 = .ok (.ifCond .ne 38, 3) := by decide +kernel
theorem dX7_leftBy_65 : decode cX7_leftBy 65 = .ok (.aload_n 0, 1) := by decide +kernel
theorem dX7_leftBy_66 : decode cX7_leftBy 66 = .ok (.aload_n 0, 1) := by decide +kernel
theorem dX7_leftBy_67 : decode cX7_leftBy 67 = .ok (.getfield 113, 3) := by decide +kernel
theorem dX7_leftBy_70 : decode cX7_leftBy 70 = .ok (.iload_n 1, 1) := by decide +kernel
theorem dX7_leftBy_71 : decode cX7_leftBy 71 = .ok (.iload_n 2, 1) := by decide +kernel
theorem dX7_leftBy_72 : decode cX7_leftBy 72 = .ok (.iload 5, 2) := by decide +kernel
theorem dX7_leftBy_74 : decode cX7_leftBy 74 = .ok (.aload_n 0, 1) := by decide +kernel
theorem dX7_leftBy_75 : decode cX7_leftBy 75 = .ok (.getfield 43, 3) := by decide +kernel
theorem dX7_leftBy_78 : decode cX7_leftBy 78 = .ok (.iconst 1, 1) := by decide +kernel
theorem dX7_leftBy_79 : decode cX7_leftBy 79 = .ok (.iaload, 1) := by decide +kernel
theorem dX7_leftBy_80 : decode cX7_leftBy 80 = .ok (.if_icmp .ne 7, 3) := by decide +kernel
theorem dX7_leftBy_83 : decode cX7_leftBy 83 = .ok (.iconst (-1), 1) := by decide +kernel
theorem dX7_leftBy_84 : decode cX7_leftBy 84 = .ok (.goto 5, 3) := by decide +kernel
theorem dX7_leftBy_87 : decode cX7_leftBy 87 = .ok (.iload 5, 2) := by decide +kernel
theorem dX7_leftBy_89 : decode cX7_leftBy 89 = .ok (.aload_n 0, 1) := by decide +kernel
theorem dX7_leftBy_90 : decode cX7_leftBy 90 = .ok (.getfield 80, 3) := by decide +kernel
theorem dX7_leftBy_93 : decode cX7_leftBy 93 = .ok (.iconst 0, 1) := by decide +kernel
theorem dX7_leftBy_94 : decode cX7_leftBy 94 = .ok (.invokevirtual 350, 3) := by decide +kernel
theorem dX7_leftBy_97 : decode cX7_leftBy 97 = .ok (.ifCond .eq 6, 3) := by decide +kernel
theorem dX7_leftBy_100 : decode cX7_leftBy 100 = .ok (.iinc 4 1, 3) := by decide +kernel
theorem dX7_leftBy_103 : decode cX7_leftBy 103 = .ok (.iinc 5 1, 3) := by decide +kernel
theorem dX7_leftBy_106 : decode cX7_leftBy 106 = .ok (.goto (-100), 3) := by decide +kernel
theorem dX7_leftBy_109 : decode cX7_leftBy 109 = .ok (.iload 4, 2) := by decide +kernel
theorem dX7_leftBy_111 : decode cX7_leftBy 111 = .ok (.ireturn, 1) := by decide +kernel
theorem dX7_tells_0 : decode cX7_tells 0 = .ok (.aload_n 0, 1) := by decide +kernel
theorem dX7_tells_1 : decode cX7_tells 1 = .ok (.iconst 0, 1) := by decide +kernel
theorem dX7_tells_2 : decode cX7_tells 2 = .ok (.putfield 131, 3) := by decide +kernel
theorem dX7_tells_5 : decode cX7_tells 5 = .ok (.aload_n 0, 1) := by decide +kernel
theorem dX7_tells_6 : decode cX7_tells 6 = .ok (.iload_n 1, 1) := by decide +kernel
theorem dX7_tells_7 : decode cX7_tells 7 = .ok (.invokevirtual 299, 3) := by decide +kernel
theorem dX7_tells_10 : decode cX7_tells 10 = .ok (.ifCond .eq 12, 3) := by decide +kernel
theorem dX7_tells_13 : decode cX7_tells 13 = .ok (.iload_n 2, 1) := by decide +kernel
theorem dX7_tells_14 : decode cX7_tells 14 = .ok (.ifCond .lt 8, 3) := by decide +kernel
theorem dX7_tells_17 : decode cX7_tells 17 = .ok (.iload_n 2, 1) := by decide +kernel
theorem dX7_tells_18 : decode cX7_tells 18 = .ok (.iconst 1, 1) := by decide +kernel
theorem dX7_tells_19 : decode cX7_tells 19 = .ok (.if_icmp .le 9, 3) := by decide +kernel
theorem dX7_tells_22 : decode cX7_tells 22 = .ok (.aload_n 0, 1) := by decide +kernel
theorem dX7_tells_23 : decode cX7_tells 23 = .ok (.iconst 1, 1) := by decide +kernel
theorem dX7_tells_24 : decode cX7_tells 24 = .ok (.invokevirtual 235, 3) := by decide +kernel
theorem dX7_tells_27 : decode cX7_tells 27 = .ok (.ireturn, 1) := by decide +kernel
theorem dX7_tells_28 : decode cX7_tells 28 = .ok (.aload_n 0, 1) := by decide +kernel
theorem dX7_tells_29 : decode cX7_tells 29 = .ok (.iload_n 1, 1) := by decide +kernel
theorem dX7_tells_30 : decode cX7_tells 30 = .ok (.invokevirtual 354, 3) := by decide +kernel
theorem dX7_tells_33 : decode cX7_tells 33 = .ok (.istore_n 3, 1) := by decide +kernel
theorem dX7_tells_34 : decode cX7_tells 34 = .ok (.iconst (-1), 1) := by decide +kernel
theorem dX7_tells_35 : decode cX7_tells 35 = .ok (.istore 4, 2) := by decide +kernel
theorem dX7_tells_37 : decode cX7_tells 37 = .ok (.iconst (-1), 1) := by decide +kernel
theorem dX7_tells_38 : decode cX7_tells 38 = .ok (.istore 5, 2) := by decide +kernel
theorem dX7_tells_40 : decode cX7_tells 40 = .ok (.aload_n 0, 1) := by decide +kernel
theorem dX7_tells_41 : decode cX7_tells 41 = .ok (.getfield 80, 3) := by decide +kernel
theorem dX7_tells_44 : decode cX7_tells 44 = .ok (.aload_n 0, 1) := by decide +kernel
theorem dX7_tells_45 : decode cX7_tells 45 = .ok (.getfield 77, 3) := by decide +kernel
theorem dX7_tells_48 : decode cX7_tells 48 = .ok (.invokestatic 287, 3) := by decide +kernel
theorem dX7_tells_51 : decode cX7_tells 51 = .ok (.aload_n 0, 1) := by decide +kernel
theorem dX7_tells_52 : decode cX7_tells 52 = .ok (.getfield 248, 3) := by decide +kernel
theorem dX7_tells_55 : decode cX7_tells 55 = .ok (.istore 6, 2) := by decide +kernel
theorem dX7_tells_57 : decode cX7_tells 57 = .ok (.iload 6, 2) := by decide +kernel
theorem dX7_tells_59 : decode cX7_tells 59 = .ok (.aload_n 0, 1) := by decide +kernel
theorem dX7_tells_60 : decode cX7_tells 60 = .ok (.getfield 43, 3) := by decide +kernel
theorem dX7_tells_63 : decode cX7_tells 63 = .ok (.iconst 5, 1) := by decide +kernel
theorem dX7_tells_64 : decode cX7_tells 64 = .ok (.iaload, 1) := by decide +kernel
theorem dX7_tells_65 : decode cX7_tells 65 = .ok (.if_icmp .ge 70, 3) := by decide +kernel
theorem dX7_tells_68 : decode cX7_tells 68 = .ok (.aload_n 0, 1) := by decide +kernel
theorem dX7_tells_69 : decode cX7_tells 69 = .ok (.getfield 113, 3) := by decide +kernel
theorem dX7_tells_72 : decode cX7_tells 72 = .ok (.aload_n 0, 1) := by decide +kernel
theorem dX7_tells_73 : decode cX7_tells 73 = .ok (.getfield 80, 3) := by decide +kernel
theorem dX7_tells_76 : decode cX7_tells 76 = .ok (.invokestatic 287, 3) := by decide +kernel
theorem dX7_tells_79 : decode cX7_tells 79 = .ok (.aload_n 0, 1) := by decide +kernel
theorem dX7_tells_80 : decode cX7_tells 80 = .ok (.aload_n 0, 1) := by decide +kernel
theorem dX7_tells_81 : decode cX7_tells 81 = .ok (.getfield 80, 3) := by decide +kernel
theorem dX7_tells_84 : decode cX7_tells 84 = .ok (.iload 6, 2) := by decide +kernel
theorem dX7_tells_86 : decode cX7_tells 86 = .ok (.aload_n 0, 1) := by decide +kernel
theorem dX7_tells_87 : decode cX7_tells 87 = .ok (.getfield 55, 3) := by decide +kernel
theorem dX7_tells_90 : decode cX7_tells 90 = .ok (.iconst 0, 1) := by decide +kernel
theorem dX7_tells_91 : decode cX7_tells 91 = .ok (.invokevirtual 305, 3) := by decide +kernel
theorem dX7_tells_94 : decode cX7_tells 94 = .ok (.pop, 1) := by decide +kernel
theorem dX7_tells_95 : decode cX7_tells 95 = .ok (.aload_n 0, 1) := by decide +kernel
theorem dX7_tells_96 : decode cX7_tells 96 = .ok (.iload 6, 2) := by decide +kernel
theorem dX7_tells_98 : decode cX7_tells 98 = .ok (.iload_n 1, 1) := by decide +kernel
theorem dX7_tells_99 : decode cX7_tells 99 = .ok (.iload_n 3, 1) := by decide +kernel
theorem dX7_tells_100 : decode cX7_tells 100 = .ok (.invokevirtual 357, 3) := by decide +kernel
theorem dX7_tells_103 : decode cX7_tells 103 = .ok (.istore 7, 2) := by decide +kernel
theorem dX7_tells_105 : decode cX7_tells 105 = .ok (.iload 4, 2) := by decide +kernel
theorem dX7_tells_107 : decode cX7_tells 107 = .ok (.iconst (-1), 1) := by decide +kernel
theorem dX7_tells_108 : decode cX7_tells 108 = .ok (.if_icmp .eq 13, 3) := by decide +kernel
theorem dX7_tells_111 : decode cX7_tells 111 = .ok (.iload 7, 2) := by decide +kernel
theorem dX7_tells_113 : decode cX7_tells 113 = .ok (.iload 5, 2) := by decide +kernel
theorem dX7_tells_115 : decode cX7_tells 115 = .ok (.if_icmp .lt 6, 3) := by decide +kernel
theorem dX7_tells_118 : decode cX7_tells 118 = .ok (.goto 11, 3) := by decide +kernel
theorem dX7_tells_121 : decode cX7_tells 121 = .ok (.iload 6, 2) := by decide +kernel
theorem dX7_tells_123 : decode cX7_tells 123 = .ok (.istore 4, 2) := by decide +kernel
theorem dX7_tells_125 : decode cX7_tells 125 = .ok (.iload 7, 2) := by decide +kernel
theorem dX7_tells_127 : decode cX7_tells 127 = .ok (.istore 5, 2) := by decide +kernel
theorem dX7_tells_129 : decode cX7_tells 129 = .ok (.iinc 6 1, 3) := by decide +kernel
theorem dX7_tells_132 : decode cX7_tells 132 = .ok (.goto (-75), 3) := by decide +kernel
theorem dX7_tells_135 : decode cX7_tells 135 = .ok (.iload_n 2, 1) := by decide +kernel
theorem dX7_tells_136 : decode cX7_tells 136 = .ok (.ifCond .ne 8, 3) := by decide +kernel
theorem dX7_tells_139 : decode cX7_tells 139 = .ok (.iload 4, 2) := by decide +kernel
theorem dX7_tells_141 : decode cX7_tells 141 = .ok (.goto 5, 3) := by decide +kernel
theorem dX7_tells_144 : decode cX7_tells 144 = .ok (.iload 5, 2) := by decide +kernel
theorem dX7_tells_146 : decode cX7_tells 146 = .ok (.ireturn, 1) := by decide +kernel
theorem dX7_near_0 : decode cX7_near 0 = .ok (.aload_n 0, 1) := by decide +kernel
theorem dX7_near_1 : decode cX7_near 1 = .ok (.iconst 0, 1) := by decide +kernel
theorem dX7_near_2 : decode cX7_near 2 = .ok (.putfield 131, 3) := by decide +kernel
theorem dX7_near_5 : decode cX7_near 5 = .ok (.iload_n 1, 1) := by decide +kernel
theorem dX7_near_6 : decode cX7_near 6 = .ok (.iconst 0, 1) := by decide +kernel
theorem dX7_near_7 : decode cX7_near 7 = .ok (.bipush 30, 2) := by decide +kernel
theorem dX7_near_9 : decode cX7_near 9 = .ok (.invokestatic 134, 3) := by decide +kernel
theorem dX7_near_12 : decode cX7_near 12 = .ok (.ifCond .ne 9, 3) := by decide +kernel
theorem dX7_near_15 : decode cX7_near 15 = .ok (.aload_n 0, 1) := by decide +kernel
theorem dX7_near_16 : decode cX7_near 16 = .ok (.iconst 1, 1) := by decide +kernel
theorem dX7_near_17 : decode cX7_near 17 = .ok (.invokevirtual 235, 3) := by decide +kernel
theorem dX7_near_20 : decode cX7_near 20 = .ok (.ireturn, 1) := by decide +kernel
theorem dX7_near_21 : decode cX7_near 21 = .ok (.iconst 0, 1) := by decide +kernel
theorem dX7_near_22 : decode cX7_near 22 = .ok (.istore_n 2, 1) := by decide +kernel
theorem dX7_near_23 : decode cX7_near 23 = .ok (.iconst 0, 1) := by decide +kernel
theorem dX7_near_24 : decode cX7_near 24 = .ok (.istore_n 3, 1) := by decide +kernel
theorem dX7_near_25 : decode cX7_near 25 = .ok (.iload_n 3, 1) := by decide +kernel
theorem dX7_near_26 : decode cX7_near 26 = .ok (.aload_n 0, 1) := by decide +kernel
theorem dX7_near_27 : decode cX7_near 27 = .ok (.getfield 43, 3) := by decide +kernel
theorem dX7_near_30 : decode cX7_near 30 = .ok (.iconst 1, 1) := by decide +kernel
theorem dX7_near_31 : decode cX7_near 31 = .ok (.iaload, 1) := by decide +kernel
theorem dX7_near_32 : decode cX7_near 32 = .ok (.if_icmp .ge 76, 3) := by decide +kernel
theorem dX7_near_35 : decode cX7_near 35 = .ok (.iload_n 3, 1) := by decide +kernel
theorem dX7_near_36 : decode cX7_near 36 = .ok (.iconst 1, 1) := by decide +kernel
theorem dX7_near_37 : decode cX7_near 37 = .ok (.iadd, 1) := by decide +kernel
theorem dX7_near_38 : decode cX7_near 38 = .ok (.istore 4, 2) := by decide +kernel
theorem dX7_near_40 : decode cX7_near 40 = .ok (.iload 4, 2) := by decide +kernel
theorem dX7_near_42 : decode cX7_near 42 = .ok (.aload_n 0, 1) := by decide +kernel
theorem dX7_near_43 : decode cX7_near 43 = .ok (.getfield 43, 3) := by decide +kernel
theorem dX7_near_46 : decode cX7_near 46 = .ok (.iconst 1, 1) := by decide +kernel
theorem dX7_near_47 : decode cX7_near 47 = .ok (.iaload, 1) := by decide +kernel
theorem dX7_near_48 : decode cX7_near 48 = .ok (.if_icmp .ge 54, 3) := by decide +kernel
theorem dX7_near_51 : decode cX7_near 51 = .ok (.iload_n 2, 1) := by decide +kernel
theorem dX7_near_52 : decode cX7_near 52 = .ok (.aload_n 0, 1) := by decide +kernel
theorem dX7_near_53 : decode cX7_near 53 = .ok (.getfield 77, 3) := by decide +kernel
theorem dX7_near_56 : decode cX7_near 56 = .ok (.iload_n 3, 1) := by decide +kernel
theorem dX7_near_57 : decode cX7_near 57 = .ok (.invokestatic 261, 3) := by decide +kernel
theorem dX7_near_60 : decode cX7_near 60 = .ok (.ifCond .ne 33, 3) := by decide +kernel
theorem dX7_near_63 : decode cX7_near 63 = .ok (.aload_n 0, 1) := by decide +kernel
theorem dX7_near_64 : decode cX7_near 64 = .ok (.getfield 77, 3) := by decide +kernel
theorem dX7_near_67 : decode cX7_near 67 = .ok (.iload 4, 2) := by decide +kernel
theorem dX7_near_69 : decode cX7_near 69 = .ok (.invokestatic 261, 3) := by decide +kernel
theorem dX7_near_72 : decode cX7_near 72 = .ok (.ifCond .ne 21, 3) := by decide +kernel
theorem dX7_near_75 : decode cX7_near 75 = .ok (.aload_n 0, 1) := by decide +kernel
theorem dX7_near_76 : decode cX7_near 76 = .ok (.getfield 77, 3) := by decide +kernel
theorem dX7_near_79 : decode cX7_near 79 = .ok (.iload_n 3, 1) := by decide +kernel
theorem dX7_near_80 : decode cX7_near 80 = .ok (.iload 4, 2) := by decide +kernel
theorem dX7_near_82 : decode cX7_near 82 = .ok (.invokestatic 265, 3) := by decide +kernel
theorem dX7_near_85 : decode cX7_near 85 = .ok (.iload_n 1, 1) := by decide +kernel
theorem dX7_near_86 : decode cX7_near 86 = .ok (.if_icmp .gt 7, 3) := by decide +kernel
theorem dX7_near_89 : decode cX7_near 89 = .ok (.iconst 1, 1) := by decide +kernel
theorem dX7_near_90 : decode cX7_near 90 = .ok (.goto 4, 3) := by decide +kernel
theorem dX7_near_93 : decode cX7_near 93 = .ok (.iconst 0, 1) := by decide +kernel
theorem dX7_near_94 : decode cX7_near 94 = .ok (.iadd, 1) := by decide +kernel
theorem dX7_near_95 : decode cX7_near 95 = .ok (.istore_n 2, 1) := by decide +kernel
theorem dX7_near_96 : decode cX7_near 96 = .ok (.iinc 4 1, 3) := by decide +kernel
theorem dX7_near_99 : decode cX7_near 99 = .ok (.goto (-59), 3) := by decide +kernel
theorem dX7_near_102 : decode cX7_near 102 = .ok (.iinc 3 1, 3) := by decide +kernel
theorem dX7_near_105 : decode cX7_near 105 = .ok (.goto (-80), 3) := by decide +kernel
theorem dX7_near_108 : decode cX7_near 108 = .ok (.iload_n 2, 1) := by decide +kernel
theorem dX7_near_109 : decode cX7_near 109 = .ok (.ireturn, 1) := by decide +kernel
theorem dX7_other_0 : decode cX7_other 0 = .ok (.iload_n 2, 1) := by decide +kernel
theorem dX7_other_1 : decode cX7_other 1 = .ok (.istore_n 3, 1) := by decide +kernel
theorem dX7_other_2 : decode cX7_other 2 = .ok (.iconst 0, 1) := by decide +kernel
theorem dX7_other_3 : decode cX7_other 3 = .ok (.istore 4, 2) := by decide +kernel
theorem dX7_other_5 : decode cX7_other 5 = .ok (.iload 4, 2) := by decide +kernel
theorem dX7_other_7 : decode cX7_other 7 = .ok (.aload_n 0, 1) := by decide +kernel
theorem dX7_other_8 : decode cX7_other 8 = .ok (.getfield 43, 3) := by decide +kernel
theorem dX7_other_11 : decode cX7_other 11 = .ok (.iconst 1, 1) := by decide +kernel
theorem dX7_other_12 : decode cX7_other 12 = .ok (.iaload, 1) := by decide +kernel
theorem dX7_other_13 : decode cX7_other 13 = .ok (.if_icmp .ge 38, 3) := by decide +kernel
theorem dX7_other_16 : decode cX7_other 16 = .ok (.aload_n 0, 1) := by decide +kernel
theorem dX7_other_17 : decode cX7_other 17 = .ok (.getfield 49, 3) := by decide +kernel
theorem dX7_other_20 : decode cX7_other 20 = .ok (.iload 4, 2) := by decide +kernel
theorem dX7_other_22 : decode cX7_other 22 = .ok (.iaload, 1) := by decide +kernel
theorem dX7_other_23 : decode cX7_other 23 = .ok (.aload_n 0, 1) := by decide +kernel
theorem dX7_other_24 : decode cX7_other 24 = .ok (.getfield 49, 3) := by decide +kernel
theorem dX7_other_27 : decode cX7_other 27 = .ok (.iload_n 1, 1) := by decide +kernel
theorem dX7_other_28 : decode cX7_other 28 = .ok (.iaload, 1) := by decide +kernel
theorem dX7_other_29 : decode cX7_other 29 = .ok (.if_icmp .ne 6, 3) := by decide +kernel
theorem dX7_other_32 : decode cX7_other 32 = .ok (.goto 13, 3) := by decide +kernel
theorem dX7_other_35 : decode cX7_other 35 = .ok (.iload_n 3, 1) := by decide +kernel
theorem dX7_other_36 : decode cX7_other 36 = .ok (.ifCond .ne 6, 3) := by decide +kernel
theorem dX7_other_39 : decode cX7_other 39 = .ok (.iload 4, 2) := by decide +kernel
theorem dX7_other_41 : decode cX7_other 41 = .ok (.ireturn, 1) := by decide +kernel
theorem dX7_other_42 : decode cX7_other 42 = .ok (.iinc 3 (-1), 3) := by decide +kernel
theorem dX7_other_45 : decode cX7_other 45 = .ok (.iinc 4 1, 3) := by decide +kernel
theorem dX7_other_48 : decode cX7_other 48 = .ok (.goto (-43), 3) := by decide +kernel
theorem dX7_other_51 : decode cX7_other 51 = .ok (.iconst (-1), 1) := by decide +kernel
theorem dX7_other_52 : decode cX7_other 52 = .ok (.ireturn, 1) := by decide +kernel
theorem dX7_drawLiked_0 : decode cX7_drawLiked 0 = .ok (.iconst 0, 1) := by decide +kernel
theorem dX7_drawLiked_1 : decode cX7_drawLiked 1 = .ok (.istore_n 1, 1) := by decide +kernel
theorem dX7_drawLiked_2 : decode cX7_drawLiked 2 = .ok (.iload_n 1, 1) := by decide +kernel
theorem dX7_drawLiked_3 : decode cX7_drawLiked 3 = .ok (.aload_n 0, 1) := by decide +kernel
theorem dX7_drawLiked_4 : decode cX7_drawLiked 4 = .ok (.getfield 43, 3) := by decide +kernel
theorem dX7_drawLiked_7 : decode cX7_drawLiked 7 = .ok (.iconst 1, 1) := by decide +kernel
theorem dX7_drawLiked_8 : decode cX7_drawLiked 8 = .ok (.iaload, 1) := by decide +kernel
theorem dX7_drawLiked_9 : decode cX7_drawLiked 9 = .ok (.if_icmp .ge 91, 3) := by decide +kernel
theorem dX7_drawLiked_12 : decode cX7_drawLiked 12 = .ok (.aload_n 0, 1) := by decide +kernel
theorem dX7_drawLiked_13 : decode cX7_drawLiked 13 = .ok (.getfield 86, 3) := by decide +kernel
theorem dX7_drawLiked_16 : decode cX7_drawLiked 16 = .ok (.iload_n 1, 1) := by decide +kernel
theorem dX7_drawLiked_17 : decode cX7_drawLiked 17 = .ok (.iconst (-1), 1) := by decide +kernel
theorem dX7_drawLiked_18 : decode cX7_drawLiked 18 = .ok (.iastore, 1) := by decide +kernel
theorem dX7_drawLiked_19 : decode cX7_drawLiked 19 = .ok (.iconst 0, 1) := by decide +kernel
theorem dX7_drawLiked_20 : decode cX7_drawLiked 20 = .ok (.istore_n 2, 1) := by decide +kernel
theorem dX7_drawLiked_21 : decode cX7_drawLiked 21 = .ok (.aload_n 0, 1) := by decide +kernel
theorem dX7_drawLiked_22 : decode cX7_drawLiked 22 = .ok (.iload_n 1, 1) := by decide +kernel
theorem dX7_drawLiked_23 : decode cX7_drawLiked 23 = .ok (.iload_n 2, 1) := by decide +kernel
theorem dX7_drawLiked_24 : decode cX7_drawLiked 24 = .ok (.invokevirtual 360, 3) := by decide +kernel
theorem dX7_drawLiked_27 : decode cX7_drawLiked 27 = .ok (.iconst (-1), 1) := by decide +kernel
theorem dX7_drawLiked_28 : decode cX7_drawLiked 28 = .ok (.if_icmp .eq 9, 3) := by decide +kernel
theorem dX7_drawLiked_31 : decode cX7_drawLiked 31 = .ok (.iinc 2 1, 3) := by decide +kernel
theorem dX7_drawLiked_34 : decode cX7_drawLiked 34 = .ok (.goto (-13), 3) := by decide +kernel
theorem dX7_drawLiked_37 : decode cX7_drawLiked 37 = .ok (.aload_n 0, 1) := by decide +kernel
theorem dX7_drawLiked_38 : decode cX7_drawLiked 38 = .ok (.getfield 46, 3) := by decide +kernel
theorem dX7_drawLiked_41 : decode cX7_drawLiked 41 = .ok (.iload_n 1, 1) := by decide +kernel
theorem dX7_drawLiked_42 : decode cX7_drawLiked 42 = .ok (.iaload, 1) := by decide +kernel
theorem dX7_drawLiked_43 : decode cX7_drawLiked 43 = .ok (.iconst 4, 1) := by decide +kernel
theorem dX7_drawLiked_44 : decode cX7_drawLiked 44 = .ok (.if_icmp .eq 50, 3) := by decide +kernel
theorem dX7_drawLiked_47 : decode cX7_drawLiked 47 = .ok (.iload_n 2, 1) := by decide +kernel
theorem dX7_drawLiked_48 : decode cX7_drawLiked 48 = .ok (.ifCond .ne 6, 3) := by decide +kernel
theorem dX7_drawLiked_51 : decode cX7_drawLiked 51 = .ok (.goto 43, 3) := by decide +kernel
theorem dX7_drawLiked_54 : decode cX7_drawLiked 54 = .ok (.aload_n 0, 1) := by decide +kernel
theorem dX7_drawLiked_55 : decode cX7_drawLiked 55 = .ok (.aload_n 0, 1) := by decide +kernel
theorem dX7_drawLiked_56 : decode cX7_drawLiked 56 = .ok (.getfield 363, 3) := by decide +kernel
theorem dX7_drawLiked_59 : decode cX7_drawLiked 59 = .ok (.ldc_w 366, 3) := by decide +kernel
theorem dX7_drawLiked_62 : decode cX7_drawLiked 62 = .ok (.imul, 1) := by decide +kernel
theorem dX7_drawLiked_63 : decode cX7_drawLiked 63 = .ok (.sipush 12345, 3) := by decide +kernel
theorem dX7_drawLiked_66 : decode cX7_drawLiked 66 = .ok (.iadd, 1) := by decide +kernel
theorem dX7_drawLiked_67 : decode cX7_drawLiked 67 = .ok (.putfield 363, 3) := by decide +kernel
theorem dX7_drawLiked_70 : decode cX7_drawLiked 70 = .ok (.aload_n 0, 1) := by decide +kernel
theorem dX7_drawLiked_71 : decode cX7_drawLiked 71 = .ok (.getfield 86, 3) := by decide +kernel
theorem dX7_drawLiked_74 : decode cX7_drawLiked 74 = .ok (.iload_n 1, 1) := by decide +kernel
theorem dX7_drawLiked_75 : decode cX7_drawLiked 75 = .ok (.aload_n 0, 1) := by decide +kernel
theorem dX7_drawLiked_76 : decode cX7_drawLiked 76 = .ok (.iload_n 1, 1) := by decide +kernel
theorem dX7_drawLiked_77 : decode cX7_drawLiked 77 = .ok (.aload_n 0, 1) := by decide +kernel
theorem dX7_drawLiked_78 : decode cX7_drawLiked 78 = .ok (.getfield 363, 3) := by decide +kernel
theorem dX7_drawLiked_81 : decode cX7_drawLiked 81 = .ok (.bipush 16, 2) := by decide +kernel
theorem dX7_drawLiked_83 : decode cX7_drawLiked 83 = .ok (.ishr, 1) := by decide +kernel
theorem dX7_drawLiked_84 : decode cX7_drawLiked 84 = .ok (.sipush 32767, 3) := by decide +kernel
theorem dX7_drawLiked_87 : decode cX7_drawLiked 87 = .ok (.iand, 1) := by decide +kernel
theorem dX7_drawLiked_88 : decode cX7_drawLiked 88 = .ok (.iload_n 2, 1) := by decide +kernel
theorem dX7_drawLiked_89 : decode cX7_drawLiked 89 = .ok (.irem, 1) := by decide +kernel
theorem dX7_drawLiked_90 : decode cX7_drawLiked 90 = .ok (.invokevirtual 360, 3) := by decide +kernel
theorem dX7_drawLiked_93 : decode cX7_drawLiked 93 = .ok (.iastore, 1) := by decide +kernel
theorem dX7_drawLiked_94 : decode cX7_drawLiked 94 = .ok (.iinc 1 1, 3) := by decide +kernel
theorem dX7_drawLiked_97 : decode cX7_drawLiked 97 = .ok (.goto (-95), 3) := by decide +kernel
theorem dX7_drawLiked_100 : decode cX7_drawLiked 100 = .ok (.return_, 1) := by decide +kernel
theorem dX7_years_0 : decode cX7_years 0 = .ok (.aload_n 0, 1) := by decide +kernel
theorem dX7_years_1 : decode cX7_years 1 = .ok (.iconst 0, 1) := by decide +kernel
theorem dX7_years_2 : decode cX7_years 2 = .ok (.putfield 131, 3) := by decide +kernel
theorem dX7_years_5 : decode cX7_years 5 = .ok (.aload_n 0, 1) := by decide +kernel
theorem dX7_years_6 : decode cX7_years 6 = .ok (.iload_n 1, 1) := by decide +kernel
theorem dX7_years_7 : decode cX7_years 7 = .ok (.invokevirtual 299, 3) := by decide +kernel
theorem dX7_years_10 : decode cX7_years 10 = .ok (.ifCond .ne 9, 3) := by decide +kernel
theorem dX7_years_13 : decode cX7_years 13 = .ok (.aload_n 0, 1) := by decide +kernel
theorem dX7_years_14 : decode cX7_years 14 = .ok (.iconst 1, 1) := by decide +kernel
theorem dX7_years_15 : decode cX7_years 15 = .ok (.invokevirtual 235, 3) := by decide +kernel
theorem dX7_years_18 : decode cX7_years 18 = .ok (.ireturn, 1) := by decide +kernel
theorem dX7_years_19 : decode cX7_years 19 = .ok (.iload_n 3, 1) := by decide +kernel
theorem dX7_years_20 : decode cX7_years 20 = .ok (.iconst 0, 1) := by decide +kernel
theorem dX7_years_21 : decode cX7_years 21 = .ok (.bipush 40, 2) := by decide +kernel
theorem dX7_years_23 : decode cX7_years 23 = .ok (.invokestatic 134, 3) := by decide +kernel
theorem dX7_years_26 : decode cX7_years 26 = .ok (.ifCond .ne 9, 3) := by decide +kernel
theorem dX7_years_29 : decode cX7_years 29 = .ok (.aload_n 0, 1) := by decide +kernel
theorem dX7_years_30 : decode cX7_years 30 = .ok (.iconst 2, 1) := by decide +kernel
theorem dX7_years_31 : decode cX7_years 31 = .ok (.invokevirtual 235, 3) := by decide +kernel
theorem dX7_years_34 : decode cX7_years 34 = .ok (.ireturn, 1) := by decide +kernel
theorem dX7_years_35 : decode cX7_years 35 = .ok (.aload_n 0, 1) := by decide +kernel
theorem dX7_years_36 : decode cX7_years 36 = .ok (.iload_n 2, 1) := by decide +kernel
theorem dX7_years_37 : decode cX7_years 37 = .ok (.putfield 363, 3) := by decide +kernel
theorem dX7_years_40 : decode cX7_years 40 = .ok (.iconst 0, 1) := by decide +kernel
theorem dX7_years_41 : decode cX7_years 41 = .ok (.istore 4, 2) := by decide +kernel
theorem dX7_years_43 : decode cX7_years 43 = .ok (.iconst 0, 1) := by decide +kernel
theorem dX7_years_44 : decode cX7_years 44 = .ok (.istore 5, 2) := by decide +kernel
theorem dX7_years_46 : decode cX7_years 46 = .ok (.iload 5, 2) := by decide +kernel
theorem dX7_years_48 : decode cX7_years 48 = .ok (.iload_n 3, 1) := by decide +kernel
theorem dX7_years_49 : decode cX7_years 49 = .ok (.if_icmp .ge 78, 3) := by decide +kernel
theorem dX7_years_52 : decode cX7_years 52 = .ok (.aload_n 0, 1) := by decide +kernel
theorem dX7_years_53 : decode cX7_years 53 = .ok (.invokevirtual 367, 3) := by decide +kernel
theorem dX7_years_56 : decode cX7_years 56 = .ok (.aload_n 0, 1) := by decide +kernel
theorem dX7_years_57 : decode cX7_years 57 = .ok (.aload_n 0, 1) := by decide +kernel
theorem dX7_years_58 : decode cX7_years 58 = .ok (.getfield 80, 3) := by decide +kernel
theorem dX7_years_61 : decode cX7_years 61 = .ok (.invokevirtual 251, 3) := by decide +kernel
theorem dX7_years_64 : decode cX7_years 64 = .ok (.iconst 0, 1) := by decide +kernel
theorem dX7_years_65 : decode cX7_years 65 = .ok (.istore 6, 2) := by decide +kernel
theorem dX7_years_67 : decode cX7_years 67 = .ok (.iload 6, 2) := by decide +kernel
theorem dX7_years_69 : decode cX7_years 69 = .ok (.aload_n 0, 1) := by decide +kernel
theorem dX7_years_70 : decode cX7_years 70 = .ok (.getfield 43, 3) := by decide +kernel
theorem dX7_years_73 : decode cX7_years 73 = .ok (.iconst 5, 1) := by decide +kernel
theorem dX7_years_74 : decode cX7_years 74 = .ok (.iaload, 1) := by decide +kernel
theorem dX7_years_75 : decode cX7_years 75 = .ok (.if_icmp .ge 25, 3) := by decide +kernel
theorem dX7_years_78 : decode cX7_years 78 = .ok (.aload_n 0, 1) := by decide +kernel
theorem dX7_years_79 : decode cX7_years 79 = .ok (.aload_n 0, 1) := by decide +kernel
theorem dX7_years_80 : decode cX7_years 80 = .ok (.getfield 80, 3) := by decide +kernel
theorem dX7_years_83 : decode cX7_years 83 = .ok (.iload 6, 2) := by decide +kernel
theorem dX7_years_85 : decode cX7_years 85 = .ok (.aload_n 0, 1) := by decide +kernel
theorem dX7_years_86 : decode cX7_years 86 = .ok (.getfield 86, 3) := by decide +kernel
theorem dX7_years_89 : decode cX7_years 89 = .ok (.iconst 0, 1) := by decide +kernel
theorem dX7_years_90 : decode cX7_years 90 = .ok (.invokevirtual 305, 3) := by decide +kernel
theorem dX7_years_93 : decode cX7_years 93 = .ok (.pop, 1) := by decide +kernel
theorem dX7_years_94 : decode cX7_years 94 = .ok (.iinc 6 1, 3) := by decide +kernel
theorem dX7_years_97 : decode cX7_years 97 = .ok (.goto (-30), 3) := by decide +kernel
theorem dX7_years_100 : decode cX7_years 100 = .ok (.iload 4, 2) := by decide +kernel
theorem dX7_years_102 : decode cX7_years 102 = .ok (.aload_n 0, 1) := by decide +kernel
theorem dX7_years_103 : decode cX7_years 103 = .ok (.getfield 80, 3) := by decide +kernel
theorem dX7_years_106 : decode cX7_years 106 = .ok (.iload_n 1, 1) := by decide +kernel
theorem dX7_years_107 : decode cX7_years 107 = .ok (.invokestatic 261, 3) := by decide +kernel
theorem dX7_years_110 : decode cX7_years 110 = .ok (.ifCond .eq 7, 3) := by decide +kernel
theorem dX7_years_113 : decode cX7_years 113 = .ok (.iconst 0, 1) := by decide +kernel
theorem dX7_years_114 : decode cX7_years 114 = .ok (.goto 4, 3) := by decide +kernel
theorem dX7_years_117 : decode cX7_years 117 = .ok (.iconst 1, 1) := by decide +kernel
theorem dX7_years_118 : decode cX7_years 118 = .ok (.iadd, 1) := by decide +kernel
theorem dX7_years_119 : decode cX7_years 119 = .ok (.istore 4, 2) := by decide +kernel
theorem dX7_years_121 : decode cX7_years 121 = .ok (.iinc 5 1, 3) := by decide +kernel
theorem dX7_years_124 : decode cX7_years 124 = .ok (.goto (-78), 3) := by decide +kernel
theorem dX7_years_127 : decode cX7_years 127 = .ok (.iload 4, 2) := by decide +kernel
theorem dX7_years_129 : decode cX7_years 129 = .ok (.ireturn, 1) := by decide +kernel
theorem dX7_image_0 : decode cX7_image 0 = .ok (.aload_n 0, 1) := by decide +kernel
theorem dX7_image_1 : decode cX7_image 1 = .ok (.iconst 0, 1) := by decide +kernel
theorem dX7_image_2 : decode cX7_image 2 = .ok (.putfield 131, 3) := by decide +kernel
theorem dX7_image_5 : decode cX7_image 5 = .ok (.aload_n 0, 1) := by decide +kernel
theorem dX7_image_6 : decode cX7_image 6 = .ok (.iconst 1, 1) := by decide +kernel
theorem dX7_image_7 : decode cX7_image 7 = .ok (.putfield 254, 3) := by decide +kernel
theorem dX7_image_10 : decode cX7_image 10 = .ok (.aload_n 0, 1) := by decide +kernel
theorem dX7_image_11 : decode cX7_image 11 = .ok (.aload_n 0, 1) := by decide +kernel
theorem dX7_image_12 : decode cX7_image 12 = .ok (.getfield 248, 3) := by decide +kernel
theorem dX7_image_15 : decode cX7_image 15 = .ok (.putfield 370, 3) := by decide +kernel
theorem dX7_image_18 : decode cX7_image 18 = .ok (.aload_n 0, 1) := by decide +kernel
theorem dX7_image_19 : decode cX7_image 19 = .ok (.getfield 116, 3) := by decide +kernel
theorem dX7_image_22 : decode cX7_image 22 = .ok (.aload_n 0, 1) := by decide +kernel
theorem dX7_image_23 : decode cX7_image 23 = .ok (.getfield 77, 3) := by decide +kernel
theorem dX7_image_26 : decode cX7_image 26 = .ok (.invokestatic 287, 3) := by decide +kernel
theorem dX7_image_29 : decode cX7_image 29 = .ok (.aload_n 0, 1) := by decide +kernel
theorem dX7_image_30 : decode cX7_image 30 = .ok (.getfield 119, 3) := by decide +kernel
theorem dX7_image_33 : decode cX7_image 33 = .ok (.aload_n 0, 1) := by decide +kernel
theorem dX7_image_34 : decode cX7_image 34 = .ok (.getfield 92, 3) := by decide +kernel
theorem dX7_image_37 : decode cX7_image 37 = .ok (.invokestatic 287, 3) := by decide +kernel
theorem dX7_image_40 : decode cX7_image 40 = .ok (.aload_n 0, 1) := by decide +kernel
theorem dX7_image_41 : decode cX7_image 41 = .ok (.getfield 122, 3) := by decide +kernel
theorem dX7_image_44 : decode cX7_image 44 = .ok (.aload_n 0, 1) := by decide +kernel
theorem dX7_image_45 : decode cX7_image 45 = .ok (.getfield 95, 3) := by decide +kernel
theorem dX7_image_48 : decode cX7_image 48 = .ok (.invokestatic 287, 3) := by decide +kernel
theorem dX7_image_51 : decode cX7_image 51 = .ok (.aload_n 0, 1) := by decide +kernel
theorem dX7_image_52 : decode cX7_image 52 = .ok (.getfield 125, 3) := by decide +kernel
theorem dX7_image_55 : decode cX7_image 55 = .ok (.aload_n 0, 1) := by decide +kernel
theorem dX7_image_56 : decode cX7_image 56 = .ok (.getfield 98, 3) := by decide +kernel
theorem dX7_image_59 : decode cX7_image 59 = .ok (.invokestatic 287, 3) := by decide +kernel
theorem dX7_image_62 : decode cX7_image 62 = .ok (.aload_n 0, 1) := by decide +kernel
theorem dX7_image_63 : decode cX7_image 63 = .ok (.getfield 128, 3) := by decide +kernel
theorem dX7_image_66 : decode cX7_image 66 = .ok (.aload_n 0, 1) := by decide +kernel
theorem dX7_image_67 : decode cX7_image 67 = .ok (.getfield 67, 3) := by decide +kernel
theorem dX7_image_70 : decode cX7_image 70 = .ok (.invokestatic 287, 3) := by decide +kernel
theorem dX7_image_73 : decode cX7_image 73 = .ok (.return_, 1) := by decide +kernel
theorem dX7_restore_0 : decode cX7_restore 0 = .ok (.aload_n 0, 1) := by decide +kernel
theorem dX7_restore_1 : decode cX7_restore 1 = .ok (.iconst 0, 1) := by decide +kernel
theorem dX7_restore_2 : decode cX7_restore 2 = .ok (.putfield 131, 3) := by decide +kernel
theorem dX7_restore_5 : decode cX7_restore 5 = .ok (.aload_n 0, 1) := by decide +kernel
theorem dX7_restore_6 : decode cX7_restore 6 = .ok (.getfield 254, 3) := by decide +kernel
theorem dX7_restore_9 : decode cX7_restore 9 = .ok (.ifCond .ne 5, 3) := by decide +kernel
theorem dX7_restore_12 : decode cX7_restore 12 = .ok (.iconst 0, 1) := by decide +kernel
theorem dX7_restore_13 : decode cX7_restore 13 = .ok (.ireturn, 1) := by decide +kernel
theorem dX7_restore_14 : decode cX7_restore 14 = .ok (.aload_n 0, 1) := by decide +kernel
theorem dX7_restore_15 : decode cX7_restore 15 = .ok (.aload_n 0, 1) := by decide +kernel
theorem dX7_restore_16 : decode cX7_restore 16 = .ok (.getfield 370, 3) := by decide +kernel
theorem dX7_restore_19 : decode cX7_restore 19 = .ok (.putfield 248, 3) := by decide +kernel
theorem dX7_restore_22 : decode cX7_restore 22 = .ok (.aload_n 0, 1) := by decide +kernel
theorem dX7_restore_23 : decode cX7_restore 23 = .ok (.getfield 77, 3) := by decide +kernel
theorem dX7_restore_26 : decode cX7_restore 26 = .ok (.aload_n 0, 1) := by decide +kernel
theorem dX7_restore_27 : decode cX7_restore 27 = .ok (.getfield 116, 3) := by decide +kernel
theorem dX7_restore_30 : decode cX7_restore 30 = .ok (.invokestatic 287, 3) := by decide +kernel
theorem dX7_restore_33 : decode cX7_restore 33 = .ok (.aload_n 0, 1) := by decide +kernel
theorem dX7_restore_34 : decode cX7_restore 34 = .ok (.getfield 92, 3) := by decide +kernel
theorem dX7_restore_37 : decode cX7_restore 37 = .ok (.aload_n 0, 1) := by decide +kernel
theorem dX7_restore_38 : decode cX7_restore 38 = .ok (.getfield 119, 3) := by decide +kernel
theorem dX7_restore_41 : decode cX7_restore 41 = .ok (.invokestatic 287, 3) := by decide +kernel
theorem dX7_restore_44 : decode cX7_restore 44 = .ok (.aload_n 0, 1) := by decide +kernel
theorem dX7_restore_45 : decode cX7_restore 45 = .ok (.getfield 95, 3) := by decide +kernel
theorem dX7_restore_48 : decode cX7_restore 48 = .ok (.aload_n 0, 1) := by decide +kernel
theorem dX7_restore_49 : decode cX7_restore 49 = .ok (.getfield 122, 3) := by decide +kernel
theorem dX7_restore_52 : decode cX7_restore 52 = .ok (.invokestatic 287, 3) := by decide +kernel
theorem dX7_restore_55 : decode cX7_restore 55 = .ok (.aload_n 0, 1) := by decide +kernel
theorem dX7_restore_56 : decode cX7_restore 56 = .ok (.getfield 98, 3) := by decide +kernel
theorem dX7_restore_59 : decode cX7_restore 59 = .ok (.aload_n 0, 1) := by decide +kernel
theorem dX7_restore_60 : decode cX7_restore 60 = .ok (.getfield 125, 3) := by decide +kernel
theorem dX7_restore_63 : decode cX7_restore 63 = .ok (.invokestatic 287, 3) := by decide +kernel
theorem dX7_restore_66 : decode cX7_restore 66 = .ok (.aload_n 0, 1) := by decide +kernel
theorem dX7_restore_67 : decode cX7_restore 67 = .ok (.getfield 67, 3) := by decide +kernel
theorem dX7_restore_70 : decode cX7_restore 70 = .ok (.aload_n 0, 1) := by decide +kernel
theorem dX7_restore_71 : decode cX7_restore 71 = .ok (.getfield 128, 3) := by decide +kernel
theorem dX7_restore_74 : decode cX7_restore 74 = .ok (.invokestatic 287, 3) := by decide +kernel
theorem dX7_restore_77 : decode cX7_restore 77 = .ok (.iconst 1, 1) := by decide +kernel
theorem dX7_restore_78 : decode cX7_restore 78 = .ok (.ireturn, 1) := by decide +kernel
theorem dJ6_bitCount_0f7a4_0 : decode cJ6_bitCount_0f7a4 0 = .ok (.iload_n 0, 1) := by decide +kernel
theorem dJ6_bitCount_0f7a4_1 : decode cJ6_bitCount_0f7a4 1 = .ok (.iload_n 0, 1) := by decide +kernel
theorem dJ6_bitCount_0f7a4_2 : decode cJ6_bitCount_0f7a4 2 = .ok (.iconst 1, 1) := by decide +kernel
theorem dJ6_bitCount_0f7a4_3 : decode cJ6_bitCount_0f7a4 3 = .ok (.iushr, 1) := by decide +kernel
theorem dJ6_bitCount_0f7a4_4 : decode cJ6_bitCount_0f7a4 4 = .ok (.ldc_w 265, 3) := by decide +kernel
theorem dJ6_bitCount_0f7a4_7 : decode cJ6_bitCount_0f7a4 7 = .ok (.iand, 1) := by decide +kernel
theorem dJ6_bitCount_0f7a4_8 : decode cJ6_bitCount_0f7a4 8 = .ok (.isub, 1) := by decide +kernel
theorem dJ6_bitCount_0f7a4_9 : decode cJ6_bitCount_0f7a4 9 = .ok (.istore_n 0, 1) := by decide +kernel
theorem dJ6_bitCount_0f7a4_10 : decode cJ6_bitCount_0f7a4 10 = .ok (.iload_n 0, 1) := by decide +kernel
theorem dJ6_bitCount_0f7a4_11 : decode cJ6_bitCount_0f7a4 11 = .ok (.ldc_w 266, 3) := by decide +kernel
theorem dJ6_bitCount_0f7a4_14 : decode cJ6_bitCount_0f7a4 14 = .ok (.iand, 1) := by decide +kernel
theorem dJ6_bitCount_0f7a4_15 : decode cJ6_bitCount_0f7a4 15 = .ok (.iload_n 0, 1) := by decide +kernel
theorem dJ6_bitCount_0f7a4_16 : decode cJ6_bitCount_0f7a4 16 = .ok (.iconst 2, 1) := by decide +kernel
theorem dJ6_bitCount_0f7a4_17 : decode cJ6_bitCount_0f7a4 17 = .ok (.iushr, 1) := by decide +kernel
theorem dJ6_bitCount_0f7a4_18 : decode cJ6_bitCount_0f7a4 18 = .ok (.ldc_w 266, 3) := by decide +kernel
theorem dJ6_bitCount_0f7a4_21 : decode cJ6_bitCount_0f7a4 21 = .ok (.iand, 1) := by decide +kernel
theorem dJ6_bitCount_0f7a4_22 : decode cJ6_bitCount_0f7a4 22 = .ok (.iadd, 1) := by decide +kernel
theorem dJ6_bitCount_0f7a4_23 : decode cJ6_bitCount_0f7a4 23 = .ok (.istore_n 0, 1) := by decide +kernel
theorem dJ6_bitCount_0f7a4_24 : decode cJ6_bitCount_0f7a4 24 = .ok (.iload_n 0, 1) := by decide +kernel
theorem dJ6_bitCount_0f7a4_25 : decode cJ6_bitCount_0f7a4 25 = .ok (.iload_n 0, 1) := by decide +kernel
theorem dJ6_bitCount_0f7a4_26 : decode cJ6_bitCount_0f7a4 26 = .ok (.iconst 4, 1) := by decide +kernel
theorem dJ6_bitCount_0f7a4_27 : decode cJ6_bitCount_0f7a4 27 = .ok (.iushr, 1) := by decide +kernel
theorem dJ6_bitCount_0f7a4_28 : decode cJ6_bitCount_0f7a4 28 = .ok (.iadd, 1) := by decide +kernel
theorem dJ6_bitCount_0f7a4_29 : decode cJ6_bitCount_0f7a4 29 = .ok (.ldc_w 267, 3) := by decide +kernel
theorem dJ6_bitCount_0f7a4_32 : decode cJ6_bitCount_0f7a4 32 = .ok (.iand, 1) := by decide +kernel
theorem dJ6_bitCount_0f7a4_33 : decode cJ6_bitCount_0f7a4 33 = .ok (.istore_n 0, 1) := by decide +kernel
theorem dJ6_bitCount_0f7a4_34 : decode cJ6_bitCount_0f7a4 34 = .ok (.iload_n 0, 1) := by decide +kernel
theorem dJ6_bitCount_0f7a4_35 : decode cJ6_bitCount_0f7a4 35 = .ok (.iload_n 0, 1) := by decide +kernel
theorem dJ6_bitCount_0f7a4_36 : decode cJ6_bitCount_0f7a4 36 = .ok (.bipush 8, 2) := by decide +kernel
theorem dJ6_bitCount_0f7a4_38 : decode cJ6_bitCount_0f7a4 38 = .ok (.iushr, 1) := by decide +kernel
theorem dJ6_bitCount_0f7a4_39 : decode cJ6_bitCount_0f7a4 39 = .ok (.iadd, 1) := by decide +kernel
theorem dJ6_bitCount_0f7a4_40 : decode cJ6_bitCount_0f7a4 40 = .ok (.istore_n 0, 1) := by decide +kernel
theorem dJ6_bitCount_0f7a4_41 : decode cJ6_bitCount_0f7a4 41 = .ok (.iload_n 0, 1) := by decide +kernel
theorem dJ6_bitCount_0f7a4_42 : decode cJ6_bitCount_0f7a4 42 = .ok (.iload_n 0, 1) := by decide +kernel
theorem dJ6_bitCount_0f7a4_43 : decode cJ6_bitCount_0f7a4 43 = .ok (.bipush 16, 2) := by decide +kernel
theorem dJ6_bitCount_0f7a4_45 : decode cJ6_bitCount_0f7a4 45 = .ok (.iushr, 1) := by decide +kernel
theorem dJ6_bitCount_0f7a4_46 : decode cJ6_bitCount_0f7a4 46 = .ok (.iadd, 1) := by decide +kernel
theorem dJ6_bitCount_0f7a4_47 : decode cJ6_bitCount_0f7a4 47 = .ok (.istore_n 0, 1) := by decide +kernel
theorem dJ6_bitCount_0f7a4_48 : decode cJ6_bitCount_0f7a4 48 = .ok (.iload_n 0, 1) := by decide +kernel
theorem dJ6_bitCount_0f7a4_49 : decode cJ6_bitCount_0f7a4 49 = .ok (.bipush 63, 2) := by decide +kernel
theorem dJ6_bitCount_0f7a4_51 : decode cJ6_bitCount_0f7a4 51 = .ok (.iand, 1) := by decide +kernel
theorem dJ6_bitCount_0f7a4_52 : decode cJ6_bitCount_0f7a4 52 = .ok (.ireturn, 1) := by decide +kernel
theorem dJ9_abs_0f7a4_0 : decode cJ9_abs_0f7a4 0 = .ok (.iload_n 0, 1) := by decide +kernel
theorem dJ9_abs_0f7a4_1 : decode cJ9_abs_0f7a4 1 = .ok (.ifCond .ge 8, 3) := by decide +kernel
theorem dJ9_abs_0f7a4_4 : decode cJ9_abs_0f7a4 4 = .ok (.iload_n 0, 1) := by decide +kernel
theorem dJ9_abs_0f7a4_5 : decode cJ9_abs_0f7a4 5 = .ok (.ineg, 1) := by decide +kernel
theorem dJ9_abs_0f7a4_6 : decode cJ9_abs_0f7a4 6 = .ok (.goto 4, 3) := by decide +kernel
theorem dJ9_abs_0f7a4_9 : decode cJ9_abs_0f7a4 9 = .ok (.iload_n 0, 1) := by decide +kernel
theorem dJ9_abs_0f7a4_10 : decode cJ9_abs_0f7a4 10 = .ok (.ireturn, 1) := by decide +kernel
theorem dJ9_max_7cf53_0 : decode cJ9_max_7cf53 0 = .ok (.iload_n 0, 1) := by decide +kernel
theorem dJ9_max_7cf53_1 : decode cJ9_max_7cf53 1 = .ok (.iload_n 1, 1) := by decide +kernel
theorem dJ9_max_7cf53_2 : decode cJ9_max_7cf53 2 = .ok (.if_icmp .lt 7, 3) := by decide +kernel
theorem dJ9_max_7cf53_5 : decode cJ9_max_7cf53 5 = .ok (.iload_n 0, 1) := by decide +kernel
theorem dJ9_max_7cf53_6 : decode cJ9_max_7cf53 6 = .ok (.goto 4, 3) := by decide +kernel
theorem dJ9_max_7cf53_9 : decode cJ9_max_7cf53 9 = .ok (.iload_n 1, 1) := by decide +kernel
theorem dJ9_max_7cf53_10 : decode cJ9_max_7cf53 10 = .ok (.ireturn, 1) := by decide +kernel
theorem dJ9_min_7cf53_0 : decode cJ9_min_7cf53 0 = .ok (.iload_n 0, 1) := by decide +kernel
theorem dJ9_min_7cf53_1 : decode cJ9_min_7cf53 1 = .ok (.iload_n 1, 1) := by decide +kernel
theorem dJ9_min_7cf53_2 : decode cJ9_min_7cf53 2 = .ok (.if_icmp .gt 7, 3) := by decide +kernel
theorem dJ9_min_7cf53_5 : decode cJ9_min_7cf53 5 = .ok (.iload_n 0, 1) := by decide +kernel
theorem dJ9_min_7cf53_6 : decode cJ9_min_7cf53 6 = .ok (.goto 4, 3) := by decide +kernel
theorem dJ9_min_7cf53_9 : decode cJ9_min_7cf53 9 = .ok (.iload_n 1, 1) := by decide +kernel
theorem dJ9_min_7cf53_10 : decode cJ9_min_7cf53 10 = .ok (.ireturn, 1) := by decide +kernel
theorem dJ0_length_8abf5_0 : decode cJ0_length_8abf5 0 = .ok (.aload_n 0, 1) := by decide +kernel
theorem dJ0_length_8abf5_1 : decode cJ0_length_8abf5 1 = .ok (.getfield 9, 3) := by decide +kernel
theorem dJ0_length_8abf5_4 : decode cJ0_length_8abf5 4 = .ok (.arraylength, 1) := by decide +kernel
theorem dJ0_length_8abf5_5 : decode cJ0_length_8abf5 5 = .ok (.aload_n 0, 1) := by decide +kernel
theorem dJ0_length_8abf5_6 : decode cJ0_length_8abf5 6 = .ok (.invokevirtual 335, 3) := by decide +kernel
theorem dJ0_length_8abf5_9 : decode cJ0_length_8abf5 9 = .ok (.ishr, 1) := by decide +kernel
theorem dJ0_length_8abf5_10 : decode cJ0_length_8abf5 10 = .ok (.ireturn, 1) := by decide +kernel
theorem dJ0_charAt_5068e_0 : decode cJ0_charAt_5068e 0 = .ok (.aload_n 0, 1) := by decide +kernel
theorem dJ0_charAt_5068e_1 : decode cJ0_charAt_5068e 1 = .ok (.invokevirtual 492, 3) := by decide +kernel
theorem dJ0_charAt_5068e_4 : decode cJ0_charAt_5068e 4 = .ok (.ifCond .eq 12, 3) := by decide +kernel
theorem dJ0_charAt_5068e_7 : decode cJ0_charAt_5068e 7 = .ok (.aload_n 0, 1) := by decide +kernel
theorem dJ0_charAt_5068e_8 : decode cJ0_charAt_5068e 8 = .ok (.getfield 9, 3) := by decide +kernel
theorem dJ0_charAt_5068e_11 : decode cJ0_charAt_5068e 11 = .ok (.iload_n 1, 1) := by decide +kernel
theorem dJ0_charAt_5068e_12 : decode cJ0_charAt_5068e 12 = .ok (.invokestatic 495, 3) := by decide +kernel
theorem dJ0_charAt_5068e_15 : decode cJ0_charAt_5068e 15 = .ok (.ireturn, 1) := by decide +kernel
theorem dJ0_charAt_5068e_16 : decode cJ0_charAt_5068e 16 = .ok (.aload_n 0, 1) := by decide +kernel
theorem dJ0_charAt_5068e_17 : decode cJ0_charAt_5068e 17 = .ok (.getfield 9, 3) := by decide +kernel
theorem dJ0_charAt_5068e_20 : decode cJ0_charAt_5068e 20 = .ok (.iload_n 1, 1) := by decide +kernel
theorem dJ0_charAt_5068e_21 : decode cJ0_charAt_5068e 21 = .ok (.invokestatic 498, 3) := by decide +kernel
theorem dJ0_charAt_5068e_24 : decode cJ0_charAt_5068e 24 = .ok (.ireturn, 1) := by decide +kernel
theorem dJ0_coder_7d493_0 : decode cJ0_coder_7d493 0 = .ok (.getstatic 38, 3) := by decide +kernel
theorem dJ0_coder_7d493_3 : decode cJ0_coder_7d493 3 = .ok (.ifCond .eq 10, 3) := by decide +kernel
theorem dJ0_coder_7d493_6 : decode cJ0_coder_7d493 6 = .ok (.aload_n 0, 1) := by decide +kernel
theorem dJ0_coder_7d493_7 : decode cJ0_coder_7d493 7 = .ok (.getfield 15, 3) := by decide +kernel
theorem dJ0_coder_7d493_10 : decode cJ0_coder_7d493 10 = .ok (.goto 4, 3) := by decide +kernel
theorem dJ0_coder_7d493_13 : decode cJ0_coder_7d493 13 = .ok (.iconst 1, 1) := by decide +kernel
theorem dJ0_coder_7d493_14 : decode cJ0_coder_7d493 14 = .ok (.ireturn, 1) := by decide +kernel
theorem dJ0_isLatin1_aae02_0 : decode cJ0_isLatin1_aae02 0 = .ok (.getstatic 38, 3) := by decide +kernel
theorem dJ0_isLatin1_aae02_3 : decode cJ0_isLatin1_aae02 3 = .ok (.ifCond .eq 14, 3) := by decide +kernel
theorem dJ0_isLatin1_aae02_6 : decode cJ0_isLatin1_aae02 6 = .ok (.aload_n 0, 1) := by decide +kernel
theorem dJ0_isLatin1_aae02_7 : decode cJ0_isLatin1_aae02 7 = .ok (.getfield 15, 3) := by decide +kernel
theorem dJ0_isLatin1_aae02_10 : decode cJ0_isLatin1_aae02 10 = .ok (.ifCond .ne 7, 3) := by decide +kernel
theorem dJ0_isLatin1_aae02_13 : decode cJ0_isLatin1_aae02 13 = .ok (.iconst 1, 1) := by decide +kernel
theorem dJ0_isLatin1_aae02_14 : decode cJ0_isLatin1_aae02 14 = .ok (.goto 4, 3) := by decide +kernel
theorem dJ0_isLatin1_aae02_17 : decode cJ0_isLatin1_aae02 17 = .ok (.iconst 0, 1) := by decide +kernel
theorem dJ0_isLatin1_aae02_18 : decode cJ0_isLatin1_aae02 18 = .ok (.ireturn, 1) := by decide +kernel
theorem dJ0_checkIndex_df160_0 : decode cJ0_checkIndex_df160 0 = .ok (.iload_n 0, 1) := by decide +kernel
theorem dJ0_checkIndex_df160_1 : decode cJ0_checkIndex_df160 1 = .ok (.iload_n 1, 1) := by decide +kernel
theorem dJ0_checkIndex_df160_2 : decode cJ0_checkIndex_df160 2 = .ok (.getstatic 1053, 3) := by decide +kernel
theorem dJ0_checkIndex_df160_5 : decode cJ0_checkIndex_df160 5 = .ok (.invokestatic 1059, 3) := by decide +kernel
theorem dJ0_checkIndex_df160_8 : decode cJ0_checkIndex_df160 8 = .ok (.pop, 1) := by decide +kernel
theorem dJ0_checkIndex_df160_9 : decode cJ0_checkIndex_df160 9 = .ok (.return_, 1) := by decide +kernel
theorem dJ1_charAt_3b067_0 : decode cJ1_charAt_3b067 0 = .ok (.iload_n 1, 1) := by decide +kernel
theorem dJ1_charAt_3b067_1 : decode cJ1_charAt_3b067 1 = .ok (.aload_n 0, 1) := by decide +kernel
theorem dJ1_charAt_3b067_2 : decode cJ1_charAt_3b067 2 = .ok (.arraylength, 1) := by decide +kernel
theorem dJ1_charAt_3b067_3 : decode cJ1_charAt_3b067 3 = .ok (.invokestatic 9, 3) := by decide +kernel
theorem dJ1_charAt_3b067_6 : decode cJ1_charAt_3b067 6 = .ok (.aload_n 0, 1) := by decide +kernel
theorem dJ1_charAt_3b067_7 : decode cJ1_charAt_3b067 7 = .ok (.iload_n 1, 1) := by decide +kernel
theorem dJ1_charAt_3b067_8 : decode cJ1_charAt_3b067 8 = .ok (.baload, 1) := by decide +kernel
theorem dJ1_charAt_3b067_9 : decode cJ1_charAt_3b067 9 = .ok (.sipush 255, 3) := by decide +kernel
theorem dJ1_charAt_3b067_12 : decode cJ1_charAt_3b067 12 = .ok (.iand, 1) := by decide +kernel
theorem dJ1_charAt_3b067_13 : decode cJ1_charAt_3b067 13 = .ok (.i2c, 1) := by decide +kernel
theorem dJ1_charAt_3b067_14 : decode cJ1_charAt_3b067 14 = .ok (.ireturn, 1) := by decide +kernel
theorem dJ2_getChar_3b067_0 : decode cJ2_getChar_3b067 0 = .ok (.getstatic 44, 3) := by decide +kernel
theorem dJ2_getChar_3b067_3 : decode cJ2_getChar_3b067 3 = .ok (.ifCond .ne 25, 3) := by decide +kernel
theorem dJ2_getChar_3b067_6 : decode cJ2_getChar_3b067 6 = .ok (.iload_n 1, 1) := by decide +kernel
theorem dJ2_getChar_3b067_7 : decode cJ2_getChar_3b067 7 = .ok (.ifCond .lt 11, 3) := by decide +kernel
theorem dJ2_getChar_3b067_10 : decode cJ2_getChar_3b067 10 = .ok (.iload_n 1, 1) := by decide +kernel
theorem dJ2_getChar_3b067_11 : decode cJ2_getChar_3b067 11 = .ok (.aload_n 0, 1) := by decide +kernel
theorem dJ2_getChar_3b067_12 : decode cJ2_getChar_3b067 12 = .ok (.invokestatic 48, 3) := by decide +kernel
theorem dJ2_getChar_3b067_15 : decode cJ2_getChar_3b067 15 = .ok (.if_icmp .lt 13, 3) := by decide +kernel
theorem dJ2_getChar_3b067_18 : decode cJ2_getChar_3b067 18 = .ok (.new 52, 3) := by decide +kernel
theorem dJ2_getChar_3b067_21 : decode cJ2_getChar_3b067 21 = .ok (.dup, 1) := by decide +kernel
theorem dJ2_getChar_3b067_22 : decode cJ2_getChar_3b067 22 = .ok (.ldc 54, 2) := by decide +kernel
theorem dJ2_getChar_3b067_24 : decode cJ2_getChar_3b067 24 = .ok (.invokespecial 56, 3) := by decide +kernel
theorem dJ2_getChar_3b067_27 : decode cJ2_getChar_3b067 27 = .ok (.athrow, 1) := by decide +kernel
theorem dJ2_getChar_3b067_28 : decode cJ2_getChar_3b067 28 = .ok (.iload_n 1, 1) := by decide +kernel
theorem dJ2_getChar_3b067_29 : decode cJ2_getChar_3b067 29 = .ok (.iconst 1, 1) := by decide +kernel
theorem dJ2_getChar_3b067_30 : decode cJ2_getChar_3b067 30 = .ok (.ishl, 1) := by decide +kernel
theorem dJ2_getChar_3b067_31 : decode cJ2_getChar_3b067 31 = .ok (.istore_n 1, 1) := by decide +kernel
theorem dJ2_getChar_3b067_32 : decode cJ2_getChar_3b067 32 = .ok (.aload_n 0, 1) := by decide +kernel
theorem dJ2_getChar_3b067_33 : decode cJ2_getChar_3b067 33 = .ok (.iload_n 1, 1) := by decide +kernel
theorem dJ2_getChar_3b067_34 : decode cJ2_getChar_3b067 34 = .ok (.iinc 1 1, 3) := by decide +kernel
theorem dJ2_getChar_3b067_37 : decode cJ2_getChar_3b067 37 = .ok (.baload, 1) := by decide +kernel
theorem dJ2_getChar_3b067_38 : decode cJ2_getChar_3b067 38 = .ok (.sipush 255, 3) := by decide +kernel
theorem dJ2_getChar_3b067_41 : decode cJ2_getChar_3b067 41 = .ok (.iand, 1) := by decide +kernel
theorem dJ2_getChar_3b067_42 : decode cJ2_getChar_3b067 42 = .ok (.getstatic 59, 3) := by decide +kernel
theorem dJ2_getChar_3b067_45 : decode cJ2_getChar_3b067 45 = .ok (.ishl, 1) := by decide +kernel
theorem dJ2_getChar_3b067_46 : decode cJ2_getChar_3b067 46 = .ok (.aload_n 0, 1) := by decide +kernel
theorem dJ2_getChar_3b067_47 : decode cJ2_getChar_3b067 47 = .ok (.iload_n 1, 1) := by decide +kernel
theorem dJ2_getChar_3b067_48 : decode cJ2_getChar_3b067 48 = .ok (.baload, 1) := by decide +kernel
theorem dJ2_getChar_3b067_49 : decode cJ2_getChar_3b067 49 = .ok (.sipush 255, 3) := by decide +kernel
theorem dJ2_getChar_3b067_52 : decode cJ2_getChar_3b067 52 = .ok (.iand, 1) := by decide +kernel
theorem dJ2_getChar_3b067_53 : decode cJ2_getChar_3b067 53 = .ok (.getstatic 63, 3) := by decide +kernel
theorem dJ2_getChar_3b067_56 : decode cJ2_getChar_3b067 56 = .ok (.ishl, 1) := by decide +kernel
theorem dJ2_getChar_3b067_57 : decode cJ2_getChar_3b067 57 = .ok (.ior, 1) := by decide +kernel
theorem dJ2_getChar_3b067_58 : decode cJ2_getChar_3b067 58 = .ok (.i2c, 1) := by decide +kernel
theorem dJ2_getChar_3b067_59 : decode cJ2_getChar_3b067 59 = .ok (.ireturn, 1) := by decide +kernel
theorem dJ2_length_9d52b_0 : decode cJ2_length_9d52b 0 = .ok (.aload_n 0, 1) := by decide +kernel
theorem dJ2_length_9d52b_1 : decode cJ2_length_9d52b 1 = .ok (.arraylength, 1) := by decide +kernel
theorem dJ2_length_9d52b_2 : decode cJ2_length_9d52b 2 = .ok (.iconst 1, 1) := by decide +kernel
theorem dJ2_length_9d52b_3 : decode cJ2_length_9d52b 3 = .ok (.ishr, 1) := by decide +kernel
theorem dJ2_length_9d52b_4 : decode cJ2_length_9d52b 4 = .ok (.ireturn, 1) := by decide +kernel
theorem dJ2_charAt_3b067_0 : decode cJ2_charAt_3b067 0 = .ok (.iload_n 1, 1) := by decide +kernel
theorem dJ2_charAt_3b067_1 : decode cJ2_charAt_3b067 1 = .ok (.aload_n 0, 1) := by decide +kernel
theorem dJ2_charAt_3b067_2 : decode cJ2_charAt_3b067 2 = .ok (.invokestatic 67, 3) := by decide +kernel
theorem dJ2_charAt_3b067_5 : decode cJ2_charAt_3b067 5 = .ok (.aload_n 0, 1) := by decide +kernel
theorem dJ2_charAt_3b067_6 : decode cJ2_charAt_3b067 6 = .ok (.iload_n 1, 1) := by decide +kernel
theorem dJ2_charAt_3b067_7 : decode cJ2_charAt_3b067 7 = .ok (.invokestatic 71, 3) := by decide +kernel
theorem dJ2_charAt_3b067_10 : decode cJ2_charAt_3b067 10 = .ok (.ireturn, 1) := by decide +kernel
theorem dJ2_checkIndex_2214a_0 : decode cJ2_checkIndex_2214a 0 = .ok (.iload_n 0, 1) := by decide +kernel
end
section
theorem dJ2_checkIndex_2214a_1 : decode cJ2_checkIndex_2214a 1 = .ok (.aload_n 1, 1) := by decide +kernel
theorem dJ2_checkIndex_2214a_2 : decode cJ2_checkIndex_2214a 2 = .ok (.invokestatic 48, 3) := by decide +kernel
theorem dJ2_checkIndex_2214a_5 : decode cJ2_checkIndex_2214a 5 = .ok (.invokestatic 414, 3) := by decide +kernel
theorem dJ2_checkIndex_2214a_8 : decode cJ2_checkIndex_2214a 8 = .ok (.return_, 1) := by decide +kernel
theorem dJ3_checkIndex_8e157_0 : decode cJ3_checkIndex_8e157 0 = .ok (.iload_n 0, 1) := by decide +kernel
theorem dJ3_checkIndex_8e157_1 : decode cJ3_checkIndex_8e157 1 = .ok (.ifCond .lt 8, 3) := by decide +kernel
theorem dJ3_checkIndex_8e157_4 : decode cJ3_checkIndex_8e157 4 = .ok (.iload_n 0, 1) := by decide +kernel
theorem dJ3_checkIndex_8e157_5 : decode cJ3_checkIndex_8e157 5 = .ok (.iload_n 1, 1) := by decide +kernel
theorem dJ3_checkIndex_8e157_6 : decode cJ3_checkIndex_8e157 6 = .ok (.if_icmp .lt 10, 3) := by decide +kernel
theorem dJ3_checkIndex_8e157_9 : decode cJ3_checkIndex_8e157 9 = .ok (.aload_n 2, 1) := by decide +kernel
theorem dJ3_checkIndex_8e157_10 : decode cJ3_checkIndex_8e157 10 = .ok (.iload_n 0, 1) := by decide +kernel
theorem dJ3_checkIndex_8e157_11 : decode cJ3_checkIndex_8e157 11 = .ok (.iload_n 1, 1) := by decide +kernel
theorem dJ3_checkIndex_8e157_12 : decode cJ3_checkIndex_8e157 12 = .ok (.invokestatic 95, 3) := by decide +kernel
theorem dJ3_checkIndex_8e157_15 : decode cJ3_checkIndex_8e157 15 = .ok (.athrow, 1) := by decide +kernel
theorem dJ3_checkIndex_8e157_16 : decode cJ3_checkIndex_8e157 16 = .ok (.iload_n 0, 1) := by decide +kernel
theorem dJ3_checkIndex_8e157_17 : decode cJ3_checkIndex_8e157 17 = .ok (.ireturn, 1) := by decide +kernel
theorem dL_valley_0 : decode cL_valley 0 = .ok (.aload_n 2, 1) := by decide +kernel
theorem dL_valley_1 : decode cL_valley 1 = .ok (.iconst 0, 1) := by decide +kernel
theorem dL_valley_2 : decode cL_valley 2 = .ok (.aload_n 0, 1) := by decide +kernel
theorem dL_valley_3 : decode cL_valley 3 = .ok (.iload_n 1, 1) := by decide +kernel
theorem dL_valley_4 : decode cL_valley 4 = .ok (.invokevirtual 7, 3) := by decide +kernel
theorem dL_valley_7 : decode cL_valley 7 = .ok (.i2l, 1) := by decide +kernel
theorem dL_valley_8 : decode cL_valley 8 = .ok (.lastore, 1) := by decide +kernel
theorem dL_valley_9 : decode cL_valley 9 = .ok (.goto 6, 3) := by decide +kernel
theorem dL_valley_12 : decode cL_valley 12 = .ok (.astore_n 3, 1) := by decide +kernel
theorem dL_valley_13 : decode cL_valley 13 = .ok (.iconst 1, 1) := by decide +kernel
theorem dL_valley_14 : decode cL_valley 14 = .ok (.ireturn, 1) := by decide +kernel
theorem dL_valley_15 : decode cL_valley 15 = .ok (.iconst 0, 1) := by decide +kernel
theorem dL_valley_16 : decode cL_valley 16 = .ok (.ireturn, 1) := by decide +kernel
theorem dL_count_0 : decode cL_count 0 = .ok (.aload_n 2, 1) := by decide +kernel
theorem dL_count_1 : decode cL_count 1 = .ok (.iconst 0, 1) := by decide +kernel
theorem dL_count_2 : decode cL_count 2 = .ok (.aload_n 0, 1) := by decide +kernel
theorem dL_count_3 : decode cL_count 3 = .ok (.iload_n 1, 1) := by decide +kernel
theorem dL_count_4 : decode cL_count 4 = .ok (.invokevirtual 15, 3) := by decide +kernel
theorem dL_count_7 : decode cL_count 7 = .ok (.i2l, 1) := by decide +kernel
theorem dL_count_8 : decode cL_count 8 = .ok (.lastore, 1) := by decide +kernel
theorem dL_count_9 : decode cL_count 9 = .ok (.goto 6, 3) := by decide +kernel
theorem dL_count_12 : decode cL_count 12 = .ok (.astore_n 3, 1) := by decide +kernel
theorem dL_count_13 : decode cL_count 13 = .ok (.iconst 1, 1) := by decide +kernel
theorem dL_count_14 : decode cL_count 14 = .ok (.ireturn, 1) := by decide +kernel
theorem dL_count_15 : decode cL_count 15 = .ok (.iconst 0, 1) := by decide +kernel
theorem dL_count_16 : decode cL_count 16 = .ok (.ireturn, 1) := by decide +kernel
theorem dL_lamp_0 : decode cL_lamp 0 = .ok (.aload_n 3, 1) := by decide +kernel
theorem dL_lamp_1 : decode cL_lamp 1 = .ok (.iconst 0, 1) := by decide +kernel
theorem dL_lamp_2 : decode cL_lamp 2 = .ok (.aload_n 0, 1) := by decide +kernel
theorem dL_lamp_3 : decode cL_lamp 3 = .ok (.iload_n 1, 1) := by decide +kernel
theorem dL_lamp_4 : decode cL_lamp 4 = .ok (.iload_n 2, 1) := by decide +kernel
theorem dL_lamp_5 : decode cL_lamp 5 = .ok (.invokevirtual 20, 3) := by decide +kernel
theorem dL_lamp_8 : decode cL_lamp 8 = .ok (.i2l, 1) := by decide +kernel
theorem dL_lamp_9 : decode cL_lamp 9 = .ok (.lastore, 1) := by decide +kernel
theorem dL_lamp_10 : decode cL_lamp 10 = .ok (.goto 7, 3) := by decide +kernel
theorem dL_lamp_13 : decode cL_lamp 13 = .ok (.astore 4, 2) := by decide +kernel
theorem dL_lamp_15 : decode cL_lamp 15 = .ok (.iconst 1, 1) := by decide +kernel
theorem dL_lamp_16 : decode cL_lamp 16 = .ok (.ireturn, 1) := by decide +kernel
theorem dL_lamp_17 : decode cL_lamp 17 = .ok (.iconst 0, 1) := by decide +kernel
theorem dL_lamp_18 : decode cL_lamp 18 = .ok (.ireturn, 1) := by decide +kernel
theorem dL_far_0 : decode cL_far 0 = .ok (.aload_n 3, 1) := by decide +kernel
theorem dL_far_1 : decode cL_far 1 = .ok (.iconst 0, 1) := by decide +kernel
theorem dL_far_2 : decode cL_far 2 = .ok (.aload_n 0, 1) := by decide +kernel
theorem dL_far_3 : decode cL_far 3 = .ok (.iload_n 1, 1) := by decide +kernel
theorem dL_far_4 : decode cL_far 4 = .ok (.iload_n 2, 1) := by decide +kernel
theorem dL_far_5 : decode cL_far 5 = .ok (.invokevirtual 24, 3) := by decide +kernel
theorem dL_far_8 : decode cL_far 8 = .ok (.i2l, 1) := by decide +kernel
theorem dL_far_9 : decode cL_far 9 = .ok (.lastore, 1) := by decide +kernel
theorem dL_far_10 : decode cL_far 10 = .ok (.goto 7, 3) := by decide +kernel
theorem dL_far_13 : decode cL_far 13 = .ok (.astore 4, 2) := by decide +kernel
theorem dL_far_15 : decode cL_far 15 = .ok (.iconst 1, 1) := by decide +kernel
theorem dL_far_16 : decode cL_far 16 = .ok (.ireturn, 1) := by decide +kernel
theorem dL_far_17 : decode cL_far 17 = .ok (.iconst 0, 1) := by decide +kernel
theorem dL_far_18 : decode cL_far 18 = .ok (.ireturn, 1) := by decide +kernel
theorem dL_nights_0 : decode cL_nights 0 = .ok (.aload_n 2, 1) := by decide +kernel
theorem dL_nights_1 : decode cL_nights 1 = .ok (.iconst 0, 1) := by decide +kernel
theorem dL_nights_2 : decode cL_nights 2 = .ok (.aload_n 0, 1) := by decide +kernel
theorem dL_nights_3 : decode cL_nights 3 = .ok (.iload_n 1, 1) := by decide +kernel
theorem dL_nights_4 : decode cL_nights 4 = .ok (.invokevirtual 27, 3) := by decide +kernel
theorem dL_nights_7 : decode cL_nights 7 = .ok (.i2l, 1) := by decide +kernel
theorem dL_nights_8 : decode cL_nights 8 = .ok (.lastore, 1) := by decide +kernel
theorem dL_nights_9 : decode cL_nights 9 = .ok (.goto 6, 3) := by decide +kernel
theorem dL_nights_12 : decode cL_nights 12 = .ok (.astore_n 3, 1) := by decide +kernel
theorem dL_nights_13 : decode cL_nights 13 = .ok (.iconst 1, 1) := by decide +kernel
theorem dL_nights_14 : decode cL_nights 14 = .ok (.ireturn, 1) := by decide +kernel
theorem dL_nights_15 : decode cL_nights 15 = .ok (.iconst 0, 1) := by decide +kernel
theorem dL_nights_16 : decode cL_nights 16 = .ok (.ireturn, 1) := by decide +kernel
theorem dL_undo_0 : decode cL_undo 0 = .ok (.aload_n 2, 1) := by decide +kernel
theorem dL_undo_1 : decode cL_undo 1 = .ok (.iconst 0, 1) := by decide +kernel
theorem dL_undo_2 : decode cL_undo 2 = .ok (.aload_n 0, 1) := by decide +kernel
theorem dL_undo_3 : decode cL_undo 3 = .ok (.iload_n 1, 1) := by decide +kernel
theorem dL_undo_4 : decode cL_undo 4 = .ok (.invokevirtual 30, 3) := by decide +kernel
theorem dL_undo_7 : decode cL_undo 7 = .ok (.i2l, 1) := by decide +kernel
theorem dL_undo_8 : decode cL_undo 8 = .ok (.lastore, 1) := by decide +kernel
theorem dL_undo_9 : decode cL_undo 9 = .ok (.goto 6, 3) := by decide +kernel
theorem dL_undo_12 : decode cL_undo 12 = .ok (.astore_n 3, 1) := by decide +kernel
theorem dL_undo_13 : decode cL_undo 13 = .ok (.iconst 1, 1) := by decide +kernel
theorem dL_undo_14 : decode cL_undo 14 = .ok (.ireturn, 1) := by decide +kernel
theorem dL_undo_15 : decode cL_undo 15 = .ok (.iconst 0, 1) := by decide +kernel
theorem dL_undo_16 : decode cL_undo 16 = .ok (.ireturn, 1) := by decide +kernel
theorem dL_book_0 : decode cL_book 0 = .ok (.aload 4, 2) := by decide +kernel
theorem dL_book_2 : decode cL_book 2 = .ok (.iconst 0, 1) := by decide +kernel
theorem dL_book_3 : decode cL_book 3 = .ok (.aload_n 0, 1) := by decide +kernel
theorem dL_book_4 : decode cL_book 4 = .ok (.iload_n 1, 1) := by decide +kernel
theorem dL_book_5 : decode cL_book 5 = .ok (.iload_n 2, 1) := by decide +kernel
theorem dL_book_6 : decode cL_book 6 = .ok (.iload_n 3, 1) := by decide +kernel
theorem dL_book_7 : decode cL_book 7 = .ok (.invokevirtual 33, 3) := by decide +kernel
theorem dL_book_10 : decode cL_book 10 = .ok (.i2l, 1) := by decide +kernel
theorem dL_book_11 : decode cL_book 11 = .ok (.lastore, 1) := by decide +kernel
theorem dL_book_12 : decode cL_book 12 = .ok (.goto 7, 3) := by decide +kernel
theorem dL_book_15 : decode cL_book 15 = .ok (.astore 5, 2) := by decide +kernel
theorem dL_book_17 : decode cL_book 17 = .ok (.iconst 1, 1) := by decide +kernel
theorem dL_book_18 : decode cL_book 18 = .ok (.ireturn, 1) := by decide +kernel
theorem dL_book_19 : decode cL_book 19 = .ok (.iconst 0, 1) := by decide +kernel
theorem dL_book_20 : decode cL_book 20 = .ok (.ireturn, 1) := by decide +kernel
theorem dL_drop_0 : decode cL_drop 0 = .ok (.aload 4, 2) := by decide +kernel
theorem dL_drop_2 : decode cL_drop 2 = .ok (.iconst 0, 1) := by decide +kernel
theorem dL_drop_3 : decode cL_drop 3 = .ok (.aload_n 0, 1) := by decide +kernel
theorem dL_drop_4 : decode cL_drop 4 = .ok (.iload_n 1, 1) := by decide +kernel
theorem dL_drop_5 : decode cL_drop 5 = .ok (.iload_n 2, 1) := by decide +kernel
theorem dL_drop_6 : decode cL_drop 6 = .ok (.iload_n 3, 1) := by decide +kernel
theorem dL_drop_7 : decode cL_drop 7 = .ok (.invokevirtual 37, 3) := by decide +kernel
theorem dL_drop_10 : decode cL_drop 10 = .ok (.ifCond .eq 7, 3) := by decide +kernel
theorem dL_drop_13 : decode cL_drop 13 = .ok (.lconst 1, 1) := by decide +kernel
theorem dL_drop_14 : decode cL_drop 14 = .ok (.goto 4, 3) := by decide +kernel
theorem dL_drop_17 : decode cL_drop 17 = .ok (.lconst 0, 1) := by decide +kernel
theorem dL_drop_18 : decode cL_drop 18 = .ok (.lastore, 1) := by decide +kernel
theorem dL_drop_19 : decode cL_drop 19 = .ok (.goto 7, 3) := by decide +kernel
theorem dL_drop_22 : decode cL_drop 22 = .ok (.astore 5, 2) := by decide +kernel
theorem dL_drop_24 : decode cL_drop 24 = .ok (.iconst 1, 1) := by decide +kernel
theorem dL_drop_25 : decode cL_drop 25 = .ok (.ireturn, 1) := by decide +kernel
theorem dL_drop_26 : decode cL_drop 26 = .ok (.iconst 0, 1) := by decide +kernel
theorem dL_drop_27 : decode cL_drop 27 = .ok (.ireturn, 1) := by decide +kernel
theorem dL_end_0 : decode cL_end 0 = .ok (.aload_n 2, 1) := by decide +kernel
theorem dL_end_1 : decode cL_end 1 = .ok (.iconst 0, 1) := by decide +kernel
theorem dL_end_2 : decode cL_end 2 = .ok (.aload_n 0, 1) := by decide +kernel
theorem dL_end_3 : decode cL_end 3 = .ok (.iload_n 1, 1) := by decide +kernel
theorem dL_end_4 : decode cL_end 4 = .ok (.invokevirtual 41, 3) := by decide +kernel
theorem dL_end_7 : decode cL_end 7 = .ok (.i2l, 1) := by decide +kernel
theorem dL_end_8 : decode cL_end 8 = .ok (.lastore, 1) := by decide +kernel
theorem dL_end_9 : decode cL_end 9 = .ok (.goto 6, 3) := by decide +kernel
theorem dL_end_12 : decode cL_end 12 = .ok (.astore_n 3, 1) := by decide +kernel
theorem dL_end_13 : decode cL_end 13 = .ok (.iconst 1, 1) := by decide +kernel
theorem dL_end_14 : decode cL_end 14 = .ok (.ireturn, 1) := by decide +kernel
theorem dL_end_15 : decode cL_end 15 = .ok (.iconst 0, 1) := by decide +kernel
theorem dL_end_16 : decode cL_end 16 = .ok (.ireturn, 1) := by decide +kernel
theorem dL_matches_0 : decode cL_matches 0 = .ok (.aload_n 2, 1) := by decide +kernel
theorem dL_matches_1 : decode cL_matches 1 = .ok (.iconst 0, 1) := by decide +kernel
theorem dL_matches_2 : decode cL_matches 2 = .ok (.aload_n 0, 1) := by decide +kernel
theorem dL_matches_3 : decode cL_matches 3 = .ok (.iload_n 1, 1) := by decide +kernel
theorem dL_matches_4 : decode cL_matches 4 = .ok (.invokevirtual 44, 3) := by decide +kernel
theorem dL_matches_7 : decode cL_matches 7 = .ok (.i2l, 1) := by decide +kernel
theorem dL_matches_8 : decode cL_matches 8 = .ok (.lastore, 1) := by decide +kernel
theorem dL_matches_9 : decode cL_matches 9 = .ok (.goto 6, 3) := by decide +kernel
theorem dL_matches_12 : decode cL_matches 12 = .ok (.astore_n 3, 1) := by decide +kernel
theorem dL_matches_13 : decode cL_matches 13 = .ok (.iconst 1, 1) := by decide +kernel
theorem dL_matches_14 : decode cL_matches 14 = .ok (.ireturn, 1) := by decide +kernel
theorem dL_matches_15 : decode cL_matches 15 = .ok (.iconst 0, 1) := by decide +kernel
theorem dL_matches_16 : decode cL_matches 16 = .ok (.ireturn, 1) := by decide +kernel
theorem dL_mother_0 : decode cL_mother 0 = .ok (.aload_n 3, 1) := by decide +kernel
theorem dL_mother_1 : decode cL_mother 1 = .ok (.iconst 0, 1) := by decide +kernel
theorem dL_mother_2 : decode cL_mother 2 = .ok (.aload_n 0, 1) := by decide +kernel
theorem dL_mother_3 : decode cL_mother 3 = .ok (.iload_n 1, 1) := by decide +kernel
theorem dL_mother_4 : decode cL_mother 4 = .ok (.iload_n 2, 1) := by decide +kernel
theorem dL_mother_5 : decode cL_mother 5 = .ok (.invokevirtual 47, 3) := by decide +kernel
theorem dL_mother_8 : decode cL_mother 8 = .ok (.i2l, 1) := by decide +kernel
theorem dL_mother_9 : decode cL_mother 9 = .ok (.lastore, 1) := by decide +kernel
theorem dL_mother_10 : decode cL_mother 10 = .ok (.goto 7, 3) := by decide +kernel
theorem dL_mother_13 : decode cL_mother 13 = .ok (.astore 4, 2) := by decide +kernel
theorem dL_mother_15 : decode cL_mother 15 = .ok (.iconst 1, 1) := by decide +kernel
theorem dL_mother_16 : decode cL_mother 16 = .ok (.ireturn, 1) := by decide +kernel
theorem dL_mother_17 : decode cL_mother 17 = .ok (.iconst 0, 1) := by decide +kernel
theorem dL_mother_18 : decode cL_mother 18 = .ok (.ireturn, 1) := by decide +kernel
theorem dL_mothers_0 : decode cL_mothers 0 = .ok (.aload_n 3, 1) := by decide +kernel
theorem dL_mothers_1 : decode cL_mothers 1 = .ok (.iconst 0, 1) := by decide +kernel
theorem dL_mothers_2 : decode cL_mothers 2 = .ok (.aload_n 0, 1) := by decide +kernel
theorem dL_mothers_3 : decode cL_mothers 3 = .ok (.iload_n 1, 1) := by decide +kernel
theorem dL_mothers_4 : decode cL_mothers 4 = .ok (.iload_n 2, 1) := by decide +kernel
theorem dL_mothers_5 : decode cL_mothers 5 = .ok (.invokevirtual 50, 3) := by decide +kernel
theorem dL_mothers_8 : decode cL_mothers 8 = .ok (.i2l, 1) := by decide +kernel
theorem dL_mothers_9 : decode cL_mothers 9 = .ok (.lastore, 1) := by decide +kernel
theorem dL_mothers_10 : decode cL_mothers 10 = .ok (.goto 11, 3) := by decide +kernel
theorem dL_mothers_13 : decode cL_mothers 13 = .ok (.astore 4, 2) := by decide +kernel
theorem dL_mothers_15 : decode cL_mothers 15 = .ok (.iconst 1, 1) := by decide +kernel
theorem dL_mothers_16 : decode cL_mothers 16 = .ok (.ireturn, 1) := by decide +kernel
theorem dL_mothers_17 : decode cL_mothers 17 = .ok (.astore 4, 2) := by decide +kernel
theorem dL_mothers_19 : decode cL_mothers 19 = .ok (.iconst 2, 1) := by decide +kernel
theorem dL_mothers_20 : decode cL_mothers 20 = .ok (.ireturn, 1) := by decide +kernel
theorem dL_mothers_21 : decode cL_mothers 21 = .ok (.iconst 0, 1) := by decide +kernel
theorem dL_mothers_22 : decode cL_mothers 22 = .ok (.ireturn, 1) := by decide +kernel
theorem dL_may_0 : decode cL_may 0 = .ok (.aload_n 2, 1) := by decide +kernel
theorem dL_may_1 : decode cL_may 1 = .ok (.iconst 0, 1) := by decide +kernel
theorem dL_may_2 : decode cL_may 2 = .ok (.aload_n 0, 1) := by decide +kernel
theorem dL_may_3 : decode cL_may 3 = .ok (.iload_n 1, 1) := by decide +kernel
theorem dL_may_4 : decode cL_may 4 = .ok (.invokevirtual 53, 3) := by decide +kernel
theorem dL_may_7 : decode cL_may 7 = .ok (.i2l, 1) := by decide +kernel
theorem dL_may_8 : decode cL_may 8 = .ok (.lastore, 1) := by decide +kernel
theorem dL_may_9 : decode cL_may 9 = .ok (.goto 6, 3) := by decide +kernel
theorem dL_may_12 : decode cL_may 12 = .ok (.astore_n 3, 1) := by decide +kernel
theorem dL_may_13 : decode cL_may 13 = .ok (.iconst 1, 1) := by decide +kernel
theorem dL_may_14 : decode cL_may 14 = .ok (.ireturn, 1) := by decide +kernel
theorem dL_may_15 : decode cL_may 15 = .ok (.iconst 0, 1) := by decide +kernel
theorem dL_may_16 : decode cL_may 16 = .ok (.ireturn, 1) := by decide +kernel
theorem dL_tells_0 : decode cL_tells 0 = .ok (.aload_n 3, 1) := by decide +kernel
theorem dL_tells_1 : decode cL_tells 1 = .ok (.iconst 0, 1) := by decide +kernel
theorem dL_tells_2 : decode cL_tells 2 = .ok (.aload_n 0, 1) := by decide +kernel
theorem dL_tells_3 : decode cL_tells 3 = .ok (.iload_n 1, 1) := by decide +kernel
theorem dL_tells_4 : decode cL_tells 4 = .ok (.iload_n 2, 1) := by decide +kernel
theorem dL_tells_5 : decode cL_tells 5 = .ok (.invokevirtual 56, 3) := by decide +kernel
theorem dL_tells_8 : decode cL_tells 8 = .ok (.i2l, 1) := by decide +kernel
theorem dL_tells_9 : decode cL_tells 9 = .ok (.lastore, 1) := by decide +kernel
theorem dL_tells_10 : decode cL_tells 10 = .ok (.goto 7, 3) := by decide +kernel
theorem dL_tells_13 : decode cL_tells 13 = .ok (.astore 4, 2) := by decide +kernel
theorem dL_tells_15 : decode cL_tells 15 = .ok (.iconst 1, 1) := by decide +kernel
theorem dL_tells_16 : decode cL_tells 16 = .ok (.ireturn, 1) := by decide +kernel
theorem dL_tells_17 : decode cL_tells 17 = .ok (.iconst 0, 1) := by decide +kernel
theorem dL_tells_18 : decode cL_tells 18 = .ok (.ireturn, 1) := by decide +kernel
theorem dL_near_0 : decode cL_near 0 = .ok (.aload_n 2, 1) := by decide +kernel
theorem dL_near_1 : decode cL_near 1 = .ok (.iconst 0, 1) := by decide +kernel
theorem dL_near_2 : decode cL_near 2 = .ok (.aload_n 0, 1) := by decide +kernel
theorem dL_near_3 : decode cL_near 3 = .ok (.iload_n 1, 1) := by decide +kernel
theorem dL_near_4 : decode cL_near 4 = .ok (.invokevirtual 59, 3) := by decide +kernel
theorem dL_near_7 : decode cL_near 7 = .ok (.i2l, 1) := by decide +kernel
theorem dL_near_8 : decode cL_near 8 = .ok (.lastore, 1) := by decide +kernel
theorem dL_near_9 : decode cL_near 9 = .ok (.goto 6, 3) := by decide +kernel
theorem dL_near_12 : decode cL_near 12 = .ok (.astore_n 3, 1) := by decide +kernel
theorem dL_near_13 : decode cL_near 13 = .ok (.iconst 1, 1) := by decide +kernel
theorem dL_near_14 : decode cL_near 14 = .ok (.ireturn, 1) := by decide +kernel
theorem dL_near_15 : decode cL_near 15 = .ok (.iconst 0, 1) := by decide +kernel
theorem dL_near_16 : decode cL_near 16 = .ok (.ireturn, 1) := by decide +kernel
theorem dL_years_0 : decode cL_years 0 = .ok (.aload 4, 2) := by decide +kernel
theorem dL_years_2 : decode cL_years 2 = .ok (.iconst 0, 1) := by decide +kernel
theorem dL_years_3 : decode cL_years 3 = .ok (.aload_n 0, 1) := by decide +kernel
theorem dL_years_4 : decode cL_years 4 = .ok (.iload_n 1, 1) := by decide +kernel
theorem dL_years_5 : decode cL_years 5 = .ok (.iload_n 2, 1) := by decide +kernel
theorem dL_years_6 : decode cL_years 6 = .ok (.iload_n 3, 1) := by decide +kernel
theorem dL_years_7 : decode cL_years 7 = .ok (.invokevirtual 62, 3) := by decide +kernel
theorem dL_years_10 : decode cL_years 10 = .ok (.i2l, 1) := by decide +kernel
theorem dL_years_11 : decode cL_years 11 = .ok (.lastore, 1) := by decide +kernel
theorem dL_years_12 : decode cL_years 12 = .ok (.goto 11, 3) := by decide +kernel
theorem dL_years_15 : decode cL_years 15 = .ok (.astore 5, 2) := by decide +kernel
theorem dL_years_17 : decode cL_years 17 = .ok (.iconst 1, 1) := by decide +kernel
theorem dL_years_18 : decode cL_years 18 = .ok (.ireturn, 1) := by decide +kernel
theorem dL_years_19 : decode cL_years 19 = .ok (.astore 5, 2) := by decide +kernel
theorem dL_years_21 : decode cL_years 21 = .ok (.iconst 2, 1) := by decide +kernel
theorem dL_years_22 : decode cL_years 22 = .ok (.ireturn, 1) := by decide +kernel
theorem dL_years_23 : decode cL_years 23 = .ok (.iconst 0, 1) := by decide +kernel
theorem dL_years_24 : decode cL_years 24 = .ok (.ireturn, 1) := by decide +kernel
theorem dL_law_0 : decode cL_law 0 = .ok (.new 8, 3) := by decide +kernel
theorem dL_law_3 : decode cL_law 3 = .ok (.dup, 1) := by decide +kernel
theorem dL_law_4 : decode cL_law 4 = .ok (.invokespecial 65, 3) := by decide +kernel
theorem dL_law_7 : decode cL_law 7 = .ok (.astore_n 1, 1) := by decide +kernel
theorem dL_law_8 : decode cL_law 8 = .ok (.new 66, 3) := by decide +kernel
theorem dL_law_11 : decode cL_law 11 = .ok (.dup, 1) := by decide +kernel
theorem dL_law_12 : decode cL_law 12 = .ok (.invokespecial 68, 3) := by decide +kernel
theorem dL_law_15 : decode cL_law 15 = .ok (.astore_n 2, 1) := by decide +kernel
theorem dL_law_16 : decode cL_law 16 = .ok (.iconst 1, 1) := by decide +kernel
theorem dL_law_17 : decode cL_law 17 = .ok (.newarray .long, 2) := by decide +kernel
theorem dL_law_19 : decode cL_law 19 = .ok (.astore_n 3, 1) := by decide +kernel
theorem dL_law_20 : decode cL_law 20 = .ok (.iconst 0, 1) := by decide +kernel
theorem dL_law_21 : decode cL_law 21 = .ok (.istore 4, 2) := by decide +kernel
theorem dL_law_23 : decode cL_law 23 = .ok (.iload 4, 2) := by decide +kernel
theorem dL_law_25 : decode cL_law 25 = .ok (.aload_n 0, 1) := by decide +kernel
theorem dL_law_26 : decode cL_law 26 = .ok (.arraylength, 1) := by decide +kernel
theorem dL_law_27 : decode cL_law 27 = .ok (.bipush 6, 2) := by decide +kernel
theorem dL_law_29 : decode cL_law 29 = .ok (.isub, 1) := by decide +kernel
theorem dL_law_30 : decode cL_law 30 = .ok (.if_icmp .gt 1257, 3) := by decide +kernel
theorem dL_law_33 : decode cL_law 33 = .ok (.aload_n 0, 1) := by decide +kernel
theorem dL_law_34 : decode cL_law 34 = .ok (.iload 4, 2) := by decide +kernel
theorem dL_law_36 : decode cL_law 36 = .ok (.iaload, 1) := by decide +kernel
theorem dL_law_37 : decode cL_law 37 = .ok (.bipush 31, 2) := by decide +kernel
theorem dL_law_39 : decode cL_law 39 = .ok (.iand, 1) := by decide +kernel
theorem dL_law_40 : decode cL_law 40 = .ok (.tableswitch 1241 0 19 #[96, 169, 225, 238, 294, 362, 430, 486, 542, 622, 709, 765, 821, 889, 957, 1013, 1081, 1137, 1217, 1228], 96) := by decide +kernel
theorem dL_law_136 : decode cL_law 136 = .ok (.aload_n 1, 1) := by decide +kernel
theorem dL_law_137 : decode cL_law 137 = .ok (.aload_n 0, 1) := by decide +kernel
theorem dL_law_138 : decode cL_law 138 = .ok (.iload 4, 2) := by decide +kernel
theorem dL_law_140 : decode cL_law 140 = .ok (.iconst 1, 1) := by decide +kernel
theorem dL_law_141 : decode cL_law 141 = .ok (.iadd, 1) := by decide +kernel
theorem dL_law_142 : decode cL_law 142 = .ok (.iaload, 1) := by decide +kernel
theorem dL_law_143 : decode cL_law 143 = .ok (.aload_n 0, 1) := by decide +kernel
theorem dL_law_144 : decode cL_law 144 = .ok (.iload 4, 2) := by decide +kernel
theorem dL_law_146 : decode cL_law 146 = .ok (.iconst 2, 1) := by decide +kernel
theorem dL_law_147 : decode cL_law 147 = .ok (.iadd, 1) := by decide +kernel
theorem dL_law_148 : decode cL_law 148 = .ok (.iaload, 1) := by decide +kernel
theorem dL_law_149 : decode cL_law 149 = .ok (.aload_n 0, 1) := by decide +kernel
theorem dL_law_150 : decode cL_law 150 = .ok (.iload 4, 2) := by decide +kernel
theorem dL_law_152 : decode cL_law 152 = .ok (.iconst 3, 1) := by decide +kernel
theorem dL_law_153 : decode cL_law 153 = .ok (.iadd, 1) := by decide +kernel
theorem dL_law_154 : decode cL_law 154 = .ok (.iaload, 1) := by decide +kernel
theorem dL_law_155 : decode cL_law 155 = .ok (.aload_n 0, 1) := by decide +kernel
theorem dL_law_156 : decode cL_law 156 = .ok (.iload 4, 2) := by decide +kernel
theorem dL_law_158 : decode cL_law 158 = .ok (.iconst 4, 1) := by decide +kernel
theorem dL_law_159 : decode cL_law 159 = .ok (.iadd, 1) := by decide +kernel
theorem dL_law_160 : decode cL_law 160 = .ok (.iaload, 1) := by decide +kernel
theorem dL_law_161 : decode cL_law 161 = .ok (.aload_n 0, 1) := by decide +kernel
theorem dL_law_162 : decode cL_law 162 = .ok (.iload 4, 2) := by decide +kernel
theorem dL_law_164 : decode cL_law 164 = .ok (.iconst 5, 1) := by decide +kernel
theorem dL_law_165 : decode cL_law 165 = .ok (.iadd, 1) := by decide +kernel
theorem dL_law_166 : decode cL_law 166 = .ok (.iaload, 1) := by decide +kernel
theorem dL_law_167 : decode cL_law 167 = .ok (.invokevirtual 69, 3) := by decide +kernel
theorem dL_law_170 : decode cL_law 170 = .ok (.aload_n 2, 1) := by decide +kernel
theorem dL_law_171 : decode cL_law 171 = .ok (.aload_n 0, 1) := by decide +kernel
theorem dL_law_172 : decode cL_law 172 = .ok (.iload 4, 2) := by decide +kernel
theorem dL_law_174 : decode cL_law 174 = .ok (.iconst 1, 1) := by decide +kernel
theorem dL_law_175 : decode cL_law 175 = .ok (.iadd, 1) := by decide +kernel
theorem dL_law_176 : decode cL_law 176 = .ok (.iaload, 1) := by decide +kernel
theorem dL_law_177 : decode cL_law 177 = .ok (.aload_n 0, 1) := by decide +kernel
theorem dL_law_178 : decode cL_law 178 = .ok (.iload 4, 2) := by decide +kernel
theorem dL_law_180 : decode cL_law 180 = .ok (.iconst 2, 1) := by decide +kernel
theorem dL_law_181 : decode cL_law 181 = .ok (.iadd, 1) := by decide +kernel
theorem dL_law_182 : decode cL_law 182 = .ok (.iaload, 1) := by decide +kernel
theorem dL_law_183 : decode cL_law 183 = .ok (.aload_n 0, 1) := by decide +kernel
theorem dL_law_184 : decode cL_law 184 = .ok (.iload 4, 2) := by decide +kernel
theorem dL_law_186 : decode cL_law 186 = .ok (.iconst 3, 1) := by decide +kernel
theorem dL_law_187 : decode cL_law 187 = .ok (.iadd, 1) := by decide +kernel
theorem dL_law_188 : decode cL_law 188 = .ok (.iaload, 1) := by decide +kernel
theorem dL_law_189 : decode cL_law 189 = .ok (.aload_n 0, 1) := by decide +kernel
theorem dL_law_190 : decode cL_law 190 = .ok (.iload 4, 2) := by decide +kernel
theorem dL_law_192 : decode cL_law 192 = .ok (.iconst 4, 1) := by decide +kernel
theorem dL_law_193 : decode cL_law 193 = .ok (.iadd, 1) := by decide +kernel
theorem dL_law_194 : decode cL_law 194 = .ok (.iaload, 1) := by decide +kernel
theorem dL_law_195 : decode cL_law 195 = .ok (.aload_n 0, 1) := by decide +kernel
theorem dL_law_196 : decode cL_law 196 = .ok (.iload 4, 2) := by decide +kernel
theorem dL_law_198 : decode cL_law 198 = .ok (.iconst 5, 1) := by decide +kernel
theorem dL_law_199 : decode cL_law 199 = .ok (.iadd, 1) := by decide +kernel
theorem dL_law_200 : decode cL_law 200 = .ok (.iaload, 1) := by decide +kernel
theorem dL_law_201 : decode cL_law 201 = .ok (.invokevirtual 73, 3) := by decide +kernel
theorem dL_law_204 : decode cL_law 204 = .ok (.if_icmp .eq 1077, 3) := by decide +kernel
theorem dL_law_207 : decode cL_law 207 = .ok (.iconst 0, 1) := by decide +kernel
theorem dL_law_208 : decode cL_law 208 = .ok (.ireturn, 1) := by decide +kernel
theorem dL_law_209 : decode cL_law 209 = .ok (.aload_n 1, 1) := by decide +kernel
theorem dL_law_210 : decode cL_law 210 = .ok (.aload_n 0, 1) := by decide +kernel
theorem dL_law_211 : decode cL_law 211 = .ok (.iload 4, 2) := by decide +kernel
theorem dL_law_213 : decode cL_law 213 = .ok (.iconst 1, 1) := by decide +kernel
theorem dL_law_214 : decode cL_law 214 = .ok (.iadd, 1) := by decide +kernel
theorem dL_law_215 : decode cL_law 215 = .ok (.iaload, 1) := by decide +kernel
theorem dL_law_216 : decode cL_law 216 = .ok (.aload_n 3, 1) := by decide +kernel
theorem dL_law_217 : decode cL_law 217 = .ok (.invokestatic 74, 3) := by decide +kernel
theorem dL_law_220 : decode cL_law 220 = .ok (.istore 5, 2) := by decide +kernel
theorem dL_law_222 : decode cL_law 222 = .ok (.aload_n 2, 1) := by decide +kernel
theorem dL_law_223 : decode cL_law 223 = .ok (.aload_n 0, 1) := by decide +kernel
theorem dL_law_224 : decode cL_law 224 = .ok (.iload 4, 2) := by decide +kernel
theorem dL_law_226 : decode cL_law 226 = .ok (.iconst 1, 1) := by decide +kernel
theorem dL_law_227 : decode cL_law 227 = .ok (.iadd, 1) := by decide +kernel
theorem dL_law_228 : decode cL_law 228 = .ok (.iaload, 1) := by decide +kernel
theorem dL_law_229 : decode cL_law 229 = .ok (.invokevirtual 79, 3) := by decide +kernel
theorem dL_law_232 : decode cL_law 232 = .ok (.istore 6, 2) := by decide +kernel
theorem dL_law_234 : decode cL_law 234 = .ok (.aload_n 2, 1) := by decide +kernel
theorem dL_law_235 : decode cL_law 235 = .ok (.invokevirtual 80, 3) := by decide +kernel
theorem dL_law_238 : decode cL_law 238 = .ok (.iload 5, 2) := by decide +kernel
theorem dL_law_240 : decode cL_law 240 = .ok (.if_icmp .eq 5, 3) := by decide +kernel
theorem dL_law_243 : decode cL_law 243 = .ok (.iconst 0, 1) := by decide +kernel
theorem dL_law_244 : decode cL_law 244 = .ok (.ireturn, 1) := by decide +kernel
theorem dL_law_245 : decode cL_law 245 = .ok (.iload 5, 2) := by decide +kernel
theorem dL_law_247 : decode cL_law 247 = .ok (.ifCond .ne 15, 3) := by decide +kernel
theorem dL_law_250 : decode cL_law 250 = .ok (.aload_n 3, 1) := by decide +kernel
theorem dL_law_251 : decode cL_law 251 = .ok (.iconst 0, 1) := by decide +kernel
theorem dL_law_252 : decode cL_law 252 = .ok (.laload, 1) := by decide +kernel
theorem dL_law_253 : decode cL_law 253 = .ok (.iload 6, 2) := by decide +kernel
theorem dL_law_255 : decode cL_law 255 = .ok (.i2l, 1) := by decide +kernel
theorem dL_law_256 : decode cL_law 256 = .ok (.lcmp, 1) := by decide +kernel
theorem dL_law_257 : decode cL_law 257 = .ok (.ifCond .eq 5, 3) := by decide +kernel
theorem dL_law_260 : decode cL_law 260 = .ok (.iconst 0, 1) := by decide +kernel
theorem dL_law_261 : decode cL_law 261 = .ok (.ireturn, 1) := by decide +kernel
theorem dL_law_262 : decode cL_law 262 = .ok (.goto 1019, 3) := by decide +kernel
theorem dL_law_265 : decode cL_law 265 = .ok (.aload_n 1, 1) := by decide +kernel
theorem dL_law_266 : decode cL_law 266 = .ok (.invokevirtual 84, 3) := by decide +kernel
theorem dL_law_269 : decode cL_law 269 = .ok (.aload_n 2, 1) := by decide +kernel
theorem dL_law_270 : decode cL_law 270 = .ok (.invokevirtual 87, 3) := by decide +kernel
theorem dL_law_273 : decode cL_law 273 = .ok (.if_icmp .eq 1008, 3) := by decide +kernel
theorem dL_law_276 : decode cL_law 276 = .ok (.iconst 0, 1) := by decide +kernel
theorem dL_law_277 : decode cL_law 277 = .ok (.ireturn, 1) := by decide +kernel
theorem dL_law_278 : decode cL_law 278 = .ok (.aload_n 1, 1) := by decide +kernel
theorem dL_law_279 : decode cL_law 279 = .ok (.aload_n 0, 1) := by decide +kernel
theorem dL_law_280 : decode cL_law 280 = .ok (.iload 4, 2) := by decide +kernel
theorem dL_law_282 : decode cL_law 282 = .ok (.iconst 1, 1) := by decide +kernel
theorem dL_law_283 : decode cL_law 283 = .ok (.iadd, 1) := by decide +kernel
theorem dL_law_284 : decode cL_law 284 = .ok (.iaload, 1) := by decide +kernel
theorem dL_law_285 : decode cL_law 285 = .ok (.aload_n 3, 1) := by decide +kernel
theorem dL_law_286 : decode cL_law 286 = .ok (.invokestatic 88, 3) := by decide +kernel
theorem dL_law_289 : decode cL_law 289 = .ok (.istore 5, 2) := by decide +kernel
theorem dL_law_291 : decode cL_law 291 = .ok (.aload_n 2, 1) := by decide +kernel
theorem dL_law_292 : decode cL_law 292 = .ok (.aload_n 0, 1) := by decide +kernel
theorem dL_law_293 : decode cL_law 293 = .ok (.iload 4, 2) := by decide +kernel
theorem dL_law_295 : decode cL_law 295 = .ok (.iconst 1, 1) := by decide +kernel
theorem dL_law_296 : decode cL_law 296 = .ok (.iadd, 1) := by decide +kernel
theorem dL_law_297 : decode cL_law 297 = .ok (.iaload, 1) := by decide +kernel
theorem dL_law_298 : decode cL_law 298 = .ok (.invokevirtual 90, 3) := by decide +kernel
theorem dL_law_301 : decode cL_law 301 = .ok (.istore 6, 2) := by decide +kernel
theorem dL_law_303 : decode cL_law 303 = .ok (.aload_n 2, 1) := by decide +kernel
theorem dL_law_304 : decode cL_law 304 = .ok (.invokevirtual 80, 3) := by decide +kernel
theorem dL_law_307 : decode cL_law 307 = .ok (.iload 5, 2) := by decide +kernel
theorem dL_law_309 : decode cL_law 309 = .ok (.if_icmp .eq 5, 3) := by decide +kernel
theorem dL_law_312 : decode cL_law 312 = .ok (.iconst 0, 1) := by decide +kernel
theorem dL_law_313 : decode cL_law 313 = .ok (.ireturn, 1) := by decide +kernel
theorem dL_law_314 : decode cL_law 314 = .ok (.iload 5, 2) := by decide +kernel
theorem dL_law_316 : decode cL_law 316 = .ok (.ifCond .ne 15, 3) := by decide +kernel
theorem dL_law_319 : decode cL_law 319 = .ok (.aload_n 3, 1) := by decide +kernel
theorem dL_law_320 : decode cL_law 320 = .ok (.iconst 0, 1) := by decide +kernel
theorem dL_law_321 : decode cL_law 321 = .ok (.laload, 1) := by decide +kernel
theorem dL_law_322 : decode cL_law 322 = .ok (.iload 6, 2) := by decide +kernel
theorem dL_law_324 : decode cL_law 324 = .ok (.i2l, 1) := by decide +kernel
theorem dL_law_325 : decode cL_law 325 = .ok (.lcmp, 1) := by decide +kernel
theorem dL_law_326 : decode cL_law 326 = .ok (.ifCond .eq 5, 3) := by decide +kernel
theorem dL_law_329 : decode cL_law 329 = .ok (.iconst 0, 1) := by decide +kernel
theorem dL_law_330 : decode cL_law 330 = .ok (.ireturn, 1) := by decide +kernel
theorem dL_law_331 : decode cL_law 331 = .ok (.goto 950, 3) := by decide +kernel
theorem dL_law_334 : decode cL_law 334 = .ok (.aload_n 1, 1) := by decide +kernel
theorem dL_law_335 : decode cL_law 335 = .ok (.aload_n 0, 1) := by decide +kernel
theorem dL_law_336 : decode cL_law 336 = .ok (.iload 4, 2) := by decide +kernel
theorem dL_law_338 : decode cL_law 338 = .ok (.iconst 1, 1) := by decide +kernel
theorem dL_law_339 : decode cL_law 339 = .ok (.iadd, 1) := by decide +kernel
theorem dL_law_340 : decode cL_law 340 = .ok (.iaload, 1) := by decide +kernel
theorem dL_law_341 : decode cL_law 341 = .ok (.aload_n 0, 1) := by decide +kernel
theorem dL_law_342 : decode cL_law 342 = .ok (.iload 4, 2) := by decide +kernel
theorem dL_law_344 : decode cL_law 344 = .ok (.iconst 2, 1) := by decide +kernel
theorem dL_law_345 : decode cL_law 345 = .ok (.iadd, 1) := by decide +kernel
theorem dL_law_346 : decode cL_law 346 = .ok (.iaload, 1) := by decide +kernel
theorem dL_law_347 : decode cL_law 347 = .ok (.aload_n 3, 1) := by decide +kernel
theorem dL_law_348 : decode cL_law 348 = .ok (.invokestatic 91, 3) := by decide +kernel
theorem dL_law_351 : decode cL_law 351 = .ok (.istore 5, 2) := by decide +kernel
theorem dL_law_353 : decode cL_law 353 = .ok (.aload_n 2, 1) := by decide +kernel
theorem dL_law_354 : decode cL_law 354 = .ok (.aload_n 0, 1) := by decide +kernel
theorem dL_law_355 : decode cL_law 355 = .ok (.iload 4, 2) := by decide +kernel
theorem dL_law_357 : decode cL_law 357 = .ok (.iconst 1, 1) := by decide +kernel
theorem dL_law_358 : decode cL_law 358 = .ok (.iadd, 1) := by decide +kernel
theorem dL_law_359 : decode cL_law 359 = .ok (.iaload, 1) := by decide +kernel
theorem dL_law_360 : decode cL_law 360 = .ok (.aload_n 0, 1) := by decide +kernel
theorem dL_law_361 : decode cL_law 361 = .ok (.iload 4, 2) := by decide +kernel
theorem dL_law_363 : decode cL_law 363 = .ok (.iconst 2, 1) := by decide +kernel
theorem dL_law_364 : decode cL_law 364 = .ok (.iadd, 1) := by decide +kernel
theorem dL_law_365 : decode cL_law 365 = .ok (.iaload, 1) := by decide +kernel
theorem dL_law_366 : decode cL_law 366 = .ok (.invokevirtual 94, 3) := by decide +kernel
theorem dL_law_369 : decode cL_law 369 = .ok (.istore 6, 2) := by decide +kernel
theorem dL_law_371 : decode cL_law 371 = .ok (.aload_n 2, 1) := by decide +kernel
theorem dL_law_372 : decode cL_law 372 = .ok (.invokevirtual 80, 3) := by decide +kernel
theorem dL_law_375 : decode cL_law 375 = .ok (.iload 5, 2) := by decide +kernel
theorem dL_law_377 : decode cL_law 377 = .ok (.if_icmp .eq 5, 3) := by decide +kernel
theorem dL_law_380 : decode cL_law 380 = .ok (.iconst 0, 1) := by decide +kernel
theorem dL_law_381 : decode cL_law 381 = .ok (.ireturn, 1) := by decide +kernel
theorem dL_law_382 : decode cL_law 382 = .ok (.iload 5, 2) := by decide +kernel
theorem dL_law_384 : decode cL_law 384 = .ok (.ifCond .ne 15, 3) := by decide +kernel
theorem dL_law_387 : decode cL_law 387 = .ok (.aload_n 3, 1) := by decide +kernel
theorem dL_law_388 : decode cL_law 388 = .ok (.iconst 0, 1) := by decide +kernel
theorem dL_law_389 : decode cL_law 389 = .ok (.laload, 1) := by decide +kernel
theorem dL_law_390 : decode cL_law 390 = .ok (.iload 6, 2) := by decide +kernel
theorem dL_law_392 : decode cL_law 392 = .ok (.i2l, 1) := by decide +kernel
theorem dL_law_393 : decode cL_law 393 = .ok (.lcmp, 1) := by decide +kernel
theorem dL_law_394 : decode cL_law 394 = .ok (.ifCond .eq 5, 3) := by decide +kernel
theorem dL_law_397 : decode cL_law 397 = .ok (.iconst 0, 1) := by decide +kernel
theorem dL_law_398 : decode cL_law 398 = .ok (.ireturn, 1) := by decide +kernel
theorem dL_law_399 : decode cL_law 399 = .ok (.goto 882, 3) := by decide +kernel
theorem dL_law_402 : decode cL_law 402 = .ok (.aload_n 1, 1) := by decide +kernel
theorem dL_law_403 : decode cL_law 403 = .ok (.aload_n 0, 1) := by decide +kernel
theorem dL_law_404 : decode cL_law 404 = .ok (.iload 4, 2) := by decide +kernel
theorem dL_law_406 : decode cL_law 406 = .ok (.iconst 1, 1) := by decide +kernel
theorem dL_law_407 : decode cL_law 407 = .ok (.iadd, 1) := by decide +kernel
theorem dL_law_408 : decode cL_law 408 = .ok (.iaload, 1) := by decide +kernel
theorem dL_law_409 : decode cL_law 409 = .ok (.aload_n 0, 1) := by decide +kernel
theorem dL_law_410 : decode cL_law 410 = .ok (.iload 4, 2) := by decide +kernel
theorem dL_law_412 : decode cL_law 412 = .ok (.iconst 2, 1) := by decide +kernel
theorem dL_law_413 : decode cL_law 413 = .ok (.iadd, 1) := by decide +kernel
theorem dL_law_414 : decode cL_law 414 = .ok (.iaload, 1) := by decide +kernel
theorem dL_law_415 : decode cL_law 415 = .ok (.aload_n 3, 1) := by decide +kernel
theorem dL_law_416 : decode cL_law 416 = .ok (.invokestatic 95, 3) := by decide +kernel
theorem dL_law_419 : decode cL_law 419 = .ok (.istore 5, 2) := by decide +kernel
theorem dL_law_421 : decode cL_law 421 = .ok (.aload_n 2, 1) := by decide +kernel
theorem dL_law_422 : decode cL_law 422 = .ok (.aload_n 0, 1) := by decide +kernel
theorem dL_law_423 : decode cL_law 423 = .ok (.iload 4, 2) := by decide +kernel
theorem dL_law_425 : decode cL_law 425 = .ok (.iconst 1, 1) := by decide +kernel
theorem dL_law_426 : decode cL_law 426 = .ok (.iadd, 1) := by decide +kernel
theorem dL_law_427 : decode cL_law 427 = .ok (.iaload, 1) := by decide +kernel
theorem dL_law_428 : decode cL_law 428 = .ok (.aload_n 0, 1) := by decide +kernel
theorem dL_law_429 : decode cL_law 429 = .ok (.iload 4, 2) := by decide +kernel
theorem dL_law_431 : decode cL_law 431 = .ok (.iconst 2, 1) := by decide +kernel
theorem dL_law_432 : decode cL_law 432 = .ok (.iadd, 1) := by decide +kernel
theorem dL_law_433 : decode cL_law 433 = .ok (.iaload, 1) := by decide +kernel
theorem dL_law_434 : decode cL_law 434 = .ok (.invokevirtual 97, 3) := by decide +kernel
theorem dL_law_437 : decode cL_law 437 = .ok (.istore 6, 2) := by decide +kernel
theorem dL_law_439 : decode cL_law 439 = .ok (.aload_n 2, 1) := by decide +kernel
theorem dL_law_440 : decode cL_law 440 = .ok (.invokevirtual 80, 3) := by decide +kernel
theorem dL_law_443 : decode cL_law 443 = .ok (.iload 5, 2) := by decide +kernel
theorem dL_law_445 : decode cL_law 445 = .ok (.if_icmp .eq 5, 3) := by decide +kernel
theorem dL_law_448 : decode cL_law 448 = .ok (.iconst 0, 1) := by decide +kernel
theorem dL_law_449 : decode cL_law 449 = .ok (.ireturn, 1) := by decide +kernel
theorem dL_law_450 : decode cL_law 450 = .ok (.iload 5, 2) := by decide +kernel
theorem dL_law_452 : decode cL_law 452 = .ok (.ifCond .ne 15, 3) := by decide +kernel
theorem dL_law_455 : decode cL_law 455 = .ok (.aload_n 3, 1) := by decide +kernel
theorem dL_law_456 : decode cL_law 456 = .ok (.iconst 0, 1) := by decide +kernel
theorem dL_law_457 : decode cL_law 457 = .ok (.laload, 1) := by decide +kernel
theorem dL_law_458 : decode cL_law 458 = .ok (.iload 6, 2) := by decide +kernel
theorem dL_law_460 : decode cL_law 460 = .ok (.i2l, 1) := by decide +kernel
theorem dL_law_461 : decode cL_law 461 = .ok (.lcmp, 1) := by decide +kernel
theorem dL_law_462 : decode cL_law 462 = .ok (.ifCond .eq 5, 3) := by decide +kernel
theorem dL_law_465 : decode cL_law 465 = .ok (.iconst 0, 1) := by decide +kernel
theorem dL_law_466 : decode cL_law 466 = .ok (.ireturn, 1) := by decide +kernel
theorem dL_law_467 : decode cL_law 467 = .ok (.goto 814, 3) := by decide +kernel
theorem dL_law_470 : decode cL_law 470 = .ok (.aload_n 1, 1) := by decide +kernel
theorem dL_law_471 : decode cL_law 471 = .ok (.aload_n 0, 1) := by decide +kernel
theorem dL_law_472 : decode cL_law 472 = .ok (.iload 4, 2) := by decide +kernel
theorem dL_law_474 : decode cL_law 474 = .ok (.iconst 1, 1) := by decide +kernel
theorem dL_law_475 : decode cL_law 475 = .ok (.iadd, 1) := by decide +kernel
theorem dL_law_476 : decode cL_law 476 = .ok (.iaload, 1) := by decide +kernel
theorem dL_law_477 : decode cL_law 477 = .ok (.aload_n 3, 1) := by decide +kernel
theorem dL_law_478 : decode cL_law 478 = .ok (.invokestatic 98, 3) := by decide +kernel
theorem dL_law_481 : decode cL_law 481 = .ok (.istore 5, 2) := by decide +kernel
theorem dL_law_483 : decode cL_law 483 = .ok (.aload_n 2, 1) := by decide +kernel
theorem dL_law_484 : decode cL_law 484 = .ok (.aload_n 0, 1) := by decide +kernel
theorem dL_law_485 : decode cL_law 485 = .ok (.iload 4, 2) := by decide +kernel
theorem dL_law_487 : decode cL_law 487 = .ok (.iconst 1, 1) := by decide +kernel
theorem dL_law_488 : decode cL_law 488 = .ok (.iadd, 1) := by decide +kernel
theorem dL_law_489 : decode cL_law 489 = .ok (.iaload, 1) := by decide +kernel
theorem dL_law_490 : decode cL_law 490 = .ok (.invokevirtual 100, 3) := by decide +kernel
theorem dL_law_493 : decode cL_law 493 = .ok (.istore 6, 2) := by decide +kernel
theorem dL_law_495 : decode cL_law 495 = .ok (.aload_n 2, 1) := by decide +kernel
theorem dL_law_496 : decode cL_law 496 = .ok (.invokevirtual 80, 3) := by decide +kernel
theorem dL_law_499 : decode cL_law 499 = .ok (.iload 5, 2) := by decide +kernel
theorem dL_law_501 : decode cL_law 501 = .ok (.if_icmp .eq 5, 3) := by decide +kernel
theorem dL_law_504 : decode cL_law 504 = .ok (.iconst 0, 1) := by decide +kernel
theorem dL_law_505 : decode cL_law 505 = .ok (.ireturn, 1) := by decide +kernel
theorem dL_law_506 : decode cL_law 506 = .ok (.iload 5, 2) := by decide +kernel
theorem dL_law_508 : decode cL_law 508 = .ok (.ifCond .ne 15, 3) := by decide +kernel
theorem dL_law_511 : decode cL_law 511 = .ok (.aload_n 3, 1) := by decide +kernel
theorem dL_law_512 : decode cL_law 512 = .ok (.iconst 0, 1) := by decide +kernel
theorem dL_law_513 : decode cL_law 513 = .ok (.laload, 1) := by decide +kernel
theorem dL_law_514 : decode cL_law 514 = .ok (.iload 6, 2) := by decide +kernel
theorem dL_law_516 : decode cL_law 516 = .ok (.i2l, 1) := by decide +kernel
theorem dL_law_517 : decode cL_law 517 = .ok (.lcmp, 1) := by decide +kernel
theorem dL_law_518 : decode cL_law 518 = .ok (.ifCond .eq 5, 3) := by decide +kernel
theorem dL_law_521 : decode cL_law 521 = .ok (.iconst 0, 1) := by decide +kernel
theorem dL_law_522 : decode cL_law 522 = .ok (.ireturn, 1) := by decide +kernel
theorem dL_law_523 : decode cL_law 523 = .ok (.goto 758, 3) := by decide +kernel
theorem dL_law_526 : decode cL_law 526 = .ok (.aload_n 1, 1) := by decide +kernel
theorem dL_law_527 : decode cL_law 527 = .ok (.aload_n 0, 1) := by decide +kernel
theorem dL_law_528 : decode cL_law 528 = .ok (.iload 4, 2) := by decide +kernel
theorem dL_law_530 : decode cL_law 530 = .ok (.iconst 1, 1) := by decide +kernel
theorem dL_law_531 : decode cL_law 531 = .ok (.iadd, 1) := by decide +kernel
theorem dL_law_532 : decode cL_law 532 = .ok (.iaload, 1) := by decide +kernel
theorem dL_law_533 : decode cL_law 533 = .ok (.aload_n 3, 1) := by decide +kernel
theorem dL_law_534 : decode cL_law 534 = .ok (.invokestatic 101, 3) := by decide +kernel
theorem dL_law_537 : decode cL_law 537 = .ok (.istore 5, 2) := by decide +kernel
theorem dL_law_539 : decode cL_law 539 = .ok (.aload_n 2, 1) := by decide +kernel
theorem dL_law_540 : decode cL_law 540 = .ok (.aload_n 0, 1) := by decide +kernel
theorem dL_law_541 : decode cL_law 541 = .ok (.iload 4, 2) := by decide +kernel
theorem dL_law_543 : decode cL_law 543 = .ok (.iconst 1, 1) := by decide +kernel
theorem dL_law_544 : decode cL_law 544 = .ok (.iadd, 1) := by decide +kernel
theorem dL_law_545 : decode cL_law 545 = .ok (.iaload, 1) := by decide +kernel
theorem dL_law_546 : decode cL_law 546 = .ok (.invokevirtual 103, 3) := by decide +kernel
theorem dL_law_549 : decode cL_law 549 = .ok (.istore 6, 2) := by decide +kernel
theorem dL_law_551 : decode cL_law 551 = .ok (.aload_n 2, 1) := by decide +kernel
theorem dL_law_552 : decode cL_law 552 = .ok (.invokevirtual 80, 3) := by decide +kernel
theorem dL_law_555 : decode cL_law 555 = .ok (.iload 5, 2) := by decide +kernel
theorem dL_law_557 : decode cL_law 557 = .ok (.if_icmp .eq 5, 3) := by decide +kernel
theorem dL_law_560 : decode cL_law 560 = .ok (.iconst 0, 1) := by decide +kernel
theorem dL_law_561 : decode cL_law 561 = .ok (.ireturn, 1) := by decide +kernel
theorem dL_law_562 : decode cL_law 562 = .ok (.iload 5, 2) := by decide +kernel
theorem dL_law_564 : decode cL_law 564 = .ok (.ifCond .ne 15, 3) := by decide +kernel
theorem dL_law_567 : decode cL_law 567 = .ok (.aload_n 3, 1) := by decide +kernel
theorem dL_law_568 : decode cL_law 568 = .ok (.iconst 0, 1) := by decide +kernel
theorem dL_law_569 : decode cL_law 569 = .ok (.laload, 1) := by decide +kernel
theorem dL_law_570 : decode cL_law 570 = .ok (.iload 6, 2) := by decide +kernel
theorem dL_law_572 : decode cL_law 572 = .ok (.i2l, 1) := by decide +kernel
theorem dL_law_573 : decode cL_law 573 = .ok (.lcmp, 1) := by decide +kernel
theorem dL_law_574 : decode cL_law 574 = .ok (.ifCond .eq 5, 3) := by decide +kernel
theorem dL_law_577 : decode cL_law 577 = .ok (.iconst 0, 1) := by decide +kernel
theorem dL_law_578 : decode cL_law 578 = .ok (.ireturn, 1) := by decide +kernel
theorem dL_law_579 : decode cL_law 579 = .ok (.goto 702, 3) := by decide +kernel
theorem dL_law_582 : decode cL_law 582 = .ok (.aload_n 1, 1) := by decide +kernel
theorem dL_law_583 : decode cL_law 583 = .ok (.aload_n 0, 1) := by decide +kernel
theorem dL_law_584 : decode cL_law 584 = .ok (.iload 4, 2) := by decide +kernel
theorem dL_law_586 : decode cL_law 586 = .ok (.iconst 1, 1) := by decide +kernel
theorem dL_law_587 : decode cL_law 587 = .ok (.iadd, 1) := by decide +kernel
theorem dL_law_588 : decode cL_law 588 = .ok (.iaload, 1) := by decide +kernel
theorem dL_law_589 : decode cL_law 589 = .ok (.aload_n 0, 1) := by decide +kernel
theorem dL_law_590 : decode cL_law 590 = .ok (.iload 4, 2) := by decide +kernel
theorem dL_law_592 : decode cL_law 592 = .ok (.iconst 2, 1) := by decide +kernel
theorem dL_law_593 : decode cL_law 593 = .ok (.iadd, 1) := by decide +kernel
theorem dL_law_594 : decode cL_law 594 = .ok (.iaload, 1) := by decide +kernel
theorem dL_law_595 : decode cL_law 595 = .ok (.aload_n 0, 1) := by decide +kernel
theorem dL_law_596 : decode cL_law 596 = .ok (.iload 4, 2) := by decide +kernel
theorem dL_law_598 : decode cL_law 598 = .ok (.iconst 3, 1) := by decide +kernel
theorem dL_law_599 : decode cL_law 599 = .ok (.iadd, 1) := by decide +kernel
theorem dL_law_600 : decode cL_law 600 = .ok (.iaload, 1) := by decide +kernel
theorem dL_law_601 : decode cL_law 601 = .ok (.aload_n 3, 1) := by decide +kernel
theorem dL_law_602 : decode cL_law 602 = .ok (.invokestatic 104, 3) := by decide +kernel
theorem dL_law_605 : decode cL_law 605 = .ok (.istore 5, 2) := by decide +kernel
theorem dL_law_607 : decode cL_law 607 = .ok (.aload_n 2, 1) := by decide +kernel
theorem dL_law_608 : decode cL_law 608 = .ok (.aload_n 0, 1) := by decide +kernel
theorem dL_law_609 : decode cL_law 609 = .ok (.iload 4, 2) := by decide +kernel
theorem dL_law_611 : decode cL_law 611 = .ok (.iconst 1, 1) := by decide +kernel
theorem dL_law_612 : decode cL_law 612 = .ok (.iadd, 1) := by decide +kernel
theorem dL_law_613 : decode cL_law 613 = .ok (.iaload, 1) := by decide +kernel
theorem dL_law_614 : decode cL_law 614 = .ok (.aload_n 0, 1) := by decide +kernel
theorem dL_law_615 : decode cL_law 615 = .ok (.iload 4, 2) := by decide +kernel
theorem dL_law_617 : decode cL_law 617 = .ok (.iconst 2, 1) := by decide +kernel
theorem dL_law_618 : decode cL_law 618 = .ok (.iadd, 1) := by decide +kernel
theorem dL_law_619 : decode cL_law 619 = .ok (.iaload, 1) := by decide +kernel
theorem dL_law_620 : decode cL_law 620 = .ok (.aload_n 0, 1) := by decide +kernel
theorem dL_law_621 : decode cL_law 621 = .ok (.iload 4, 2) := by decide +kernel
theorem dL_law_623 : decode cL_law 623 = .ok (.iconst 3, 1) := by decide +kernel
theorem dL_law_624 : decode cL_law 624 = .ok (.iadd, 1) := by decide +kernel
theorem dL_law_625 : decode cL_law 625 = .ok (.iaload, 1) := by decide +kernel
theorem dL_law_626 : decode cL_law 626 = .ok (.invokevirtual 107, 3) := by decide +kernel
theorem dL_law_629 : decode cL_law 629 = .ok (.istore 6, 2) := by decide +kernel
theorem dL_law_631 : decode cL_law 631 = .ok (.aload_n 2, 1) := by decide +kernel
theorem dL_law_632 : decode cL_law 632 = .ok (.invokevirtual 80, 3) := by decide +kernel
theorem dL_law_635 : decode cL_law 635 = .ok (.iload 5, 2) := by decide +kernel
theorem dL_law_637 : decode cL_law 637 = .ok (.if_icmp .eq 5, 3) := by decide +kernel
theorem dL_law_640 : decode cL_law 640 = .ok (.iconst 0, 1) := by decide +kernel
theorem dL_law_641 : decode cL_law 641 = .ok (.ireturn, 1) := by decide +kernel
theorem dL_law_642 : decode cL_law 642 = .ok (.iload 5, 2) := by decide +kernel
theorem dL_law_644 : decode cL_law 644 = .ok (.ifCond .ne 15, 3) := by decide +kernel
theorem dL_law_647 : decode cL_law 647 = .ok (.aload_n 3, 1) := by decide +kernel
theorem dL_law_648 : decode cL_law 648 = .ok (.iconst 0, 1) := by decide +kernel
theorem dL_law_649 : decode cL_law 649 = .ok (.laload, 1) := by decide +kernel
theorem dL_law_650 : decode cL_law 650 = .ok (.iload 6, 2) := by decide +kernel
theorem dL_law_652 : decode cL_law 652 = .ok (.i2l, 1) := by decide +kernel
theorem dL_law_653 : decode cL_law 653 = .ok (.lcmp, 1) := by decide +kernel
theorem dL_law_654 : decode cL_law 654 = .ok (.ifCond .eq 5, 3) := by decide +kernel
theorem dL_law_657 : decode cL_law 657 = .ok (.iconst 0, 1) := by decide +kernel
theorem dL_law_658 : decode cL_law 658 = .ok (.ireturn, 1) := by decide +kernel
theorem dL_law_659 : decode cL_law 659 = .ok (.goto 622, 3) := by decide +kernel
theorem dL_law_662 : decode cL_law 662 = .ok (.aload_n 1, 1) := by decide +kernel
theorem dL_law_663 : decode cL_law 663 = .ok (.aload_n 0, 1) := by decide +kernel
theorem dL_law_664 : decode cL_law 664 = .ok (.iload 4, 2) := by decide +kernel
theorem dL_law_666 : decode cL_law 666 = .ok (.iconst 1, 1) := by decide +kernel
theorem dL_law_667 : decode cL_law 667 = .ok (.iadd, 1) := by decide +kernel
theorem dL_law_668 : decode cL_law 668 = .ok (.iaload, 1) := by decide +kernel
theorem dL_law_669 : decode cL_law 669 = .ok (.aload_n 0, 1) := by decide +kernel
theorem dL_law_670 : decode cL_law 670 = .ok (.iload 4, 2) := by decide +kernel
theorem dL_law_672 : decode cL_law 672 = .ok (.iconst 2, 1) := by decide +kernel
theorem dL_law_673 : decode cL_law 673 = .ok (.iadd, 1) := by decide +kernel
theorem dL_law_674 : decode cL_law 674 = .ok (.iaload, 1) := by decide +kernel
theorem dL_law_675 : decode cL_law 675 = .ok (.aload_n 0, 1) := by decide +kernel
theorem dL_law_676 : decode cL_law 676 = .ok (.iload 4, 2) := by decide +kernel
theorem dL_law_678 : decode cL_law 678 = .ok (.iconst 3, 1) := by decide +kernel
theorem dL_law_679 : decode cL_law 679 = .ok (.iadd, 1) := by decide +kernel
theorem dL_law_680 : decode cL_law 680 = .ok (.iaload, 1) := by decide +kernel
theorem dL_law_681 : decode cL_law 681 = .ok (.aload_n 3, 1) := by decide +kernel
theorem dL_law_682 : decode cL_law 682 = .ok (.invokestatic 108, 3) := by decide +kernel
theorem dL_law_685 : decode cL_law 685 = .ok (.istore 5, 2) := by decide +kernel
theorem dL_law_687 : decode cL_law 687 = .ok (.aload_n 2, 1) := by decide +kernel
theorem dL_law_688 : decode cL_law 688 = .ok (.aload_n 0, 1) := by decide +kernel
theorem dL_law_689 : decode cL_law 689 = .ok (.iload 4, 2) := by decide +kernel
theorem dL_law_691 : decode cL_law 691 = .ok (.iconst 1, 1) := by decide +kernel
theorem dL_law_692 : decode cL_law 692 = .ok (.iadd, 1) := by decide +kernel
theorem dL_law_693 : decode cL_law 693 = .ok (.iaload, 1) := by decide +kernel
theorem dL_law_694 : decode cL_law 694 = .ok (.aload_n 0, 1) := by decide +kernel
theorem dL_law_695 : decode cL_law 695 = .ok (.iload 4, 2) := by decide +kernel
theorem dL_law_697 : decode cL_law 697 = .ok (.iconst 2, 1) := by decide +kernel
theorem dL_law_698 : decode cL_law 698 = .ok (.iadd, 1) := by decide +kernel
theorem dL_law_699 : decode cL_law 699 = .ok (.iaload, 1) := by decide +kernel
theorem dL_law_700 : decode cL_law 700 = .ok (.aload_n 0, 1) := by decide +kernel
theorem dL_law_701 : decode cL_law 701 = .ok (.iload 4, 2) := by decide +kernel
theorem dL_law_703 : decode cL_law 703 = .ok (.iconst 3, 1) := by decide +kernel
theorem dL_law_704 : decode cL_law 704 = .ok (.iadd, 1) := by decide +kernel
theorem dL_law_705 : decode cL_law 705 = .ok (.iaload, 1) := by decide +kernel
theorem dL_law_706 : decode cL_law 706 = .ok (.invokevirtual 110, 3) := by decide +kernel
theorem dL_law_709 : decode cL_law 709 = .ok (.istore 6, 2) := by decide +kernel
theorem dL_law_711 : decode cL_law 711 = .ok (.aload_n 2, 1) := by decide +kernel
theorem dL_law_712 : decode cL_law 712 = .ok (.invokevirtual 80, 3) := by decide +kernel
theorem dL_law_715 : decode cL_law 715 = .ok (.iload 5, 2) := by decide +kernel
theorem dL_law_717 : decode cL_law 717 = .ok (.if_icmp .eq 5, 3) := by decide +kernel
theorem dL_law_720 : decode cL_law 720 = .ok (.iconst 0, 1) := by decide +kernel
theorem dL_law_721 : decode cL_law 721 = .ok (.ireturn, 1) := by decide +kernel
theorem dL_law_722 : decode cL_law 722 = .ok (.iload 5, 2) := by decide +kernel
theorem dL_law_724 : decode cL_law 724 = .ok (.ifCond .ne 22, 3) := by decide +kernel
theorem dL_law_727 : decode cL_law 727 = .ok (.aload_n 3, 1) := by decide +kernel
theorem dL_law_728 : decode cL_law 728 = .ok (.iconst 0, 1) := by decide +kernel
theorem dL_law_729 : decode cL_law 729 = .ok (.laload, 1) := by decide +kernel
theorem dL_law_730 : decode cL_law 730 = .ok (.iload 6, 2) := by decide +kernel
theorem dL_law_732 : decode cL_law 732 = .ok (.ifCond .eq 7, 3) := by decide +kernel
theorem dL_law_735 : decode cL_law 735 = .ok (.lconst 1, 1) := by decide +kernel
theorem dL_law_736 : decode cL_law 736 = .ok (.goto 4, 3) := by decide +kernel
theorem dL_law_739 : decode cL_law 739 = .ok (.lconst 0, 1) := by decide +kernel
theorem dL_law_740 : decode cL_law 740 = .ok (.lcmp, 1) := by decide +kernel
theorem dL_law_741 : decode cL_law 741 = .ok (.ifCond .eq 5, 3) := by decide +kernel
theorem dL_law_744 : decode cL_law 744 = .ok (.iconst 0, 1) := by decide +kernel
theorem dL_law_745 : decode cL_law 745 = .ok (.ireturn, 1) := by decide +kernel
theorem dL_law_746 : decode cL_law 746 = .ok (.goto 535, 3) := by decide +kernel
theorem dL_law_749 : decode cL_law 749 = .ok (.aload_n 1, 1) := by decide +kernel
theorem dL_law_750 : decode cL_law 750 = .ok (.aload_n 0, 1) := by decide +kernel
theorem dL_law_751 : decode cL_law 751 = .ok (.iload 4, 2) := by decide +kernel
theorem dL_law_753 : decode cL_law 753 = .ok (.iconst 1, 1) := by decide +kernel
theorem dL_law_754 : decode cL_law 754 = .ok (.iadd, 1) := by decide +kernel
theorem dL_law_755 : decode cL_law 755 = .ok (.iaload, 1) := by decide +kernel
theorem dL_law_756 : decode cL_law 756 = .ok (.aload_n 3, 1) := by decide +kernel
theorem dL_law_757 : decode cL_law 757 = .ok (.invokestatic 111, 3) := by decide +kernel
theorem dL_law_760 : decode cL_law 760 = .ok (.istore 5, 2) := by decide +kernel
theorem dL_law_762 : decode cL_law 762 = .ok (.aload_n 2, 1) := by decide +kernel
theorem dL_law_763 : decode cL_law 763 = .ok (.aload_n 0, 1) := by decide +kernel
theorem dL_law_764 : decode cL_law 764 = .ok (.iload 4, 2) := by decide +kernel
theorem dL_law_766 : decode cL_law 766 = .ok (.iconst 1, 1) := by decide +kernel
theorem dL_law_767 : decode cL_law 767 = .ok (.iadd, 1) := by decide +kernel
theorem dL_law_768 : decode cL_law 768 = .ok (.iaload, 1) := by decide +kernel
theorem dL_law_769 : decode cL_law 769 = .ok (.invokevirtual 113, 3) := by decide +kernel
theorem dL_law_772 : decode cL_law 772 = .ok (.istore 6, 2) := by decide +kernel
theorem dL_law_774 : decode cL_law 774 = .ok (.aload_n 2, 1) := by decide +kernel
theorem dL_law_775 : decode cL_law 775 = .ok (.invokevirtual 80, 3) := by decide +kernel
theorem dL_law_778 : decode cL_law 778 = .ok (.iload 5, 2) := by decide +kernel
theorem dL_law_780 : decode cL_law 780 = .ok (.if_icmp .eq 5, 3) := by decide +kernel
theorem dL_law_783 : decode cL_law 783 = .ok (.iconst 0, 1) := by decide +kernel
theorem dL_law_784 : decode cL_law 784 = .ok (.ireturn, 1) := by decide +kernel
theorem dL_law_785 : decode cL_law 785 = .ok (.iload 5, 2) := by decide +kernel
theorem dL_law_787 : decode cL_law 787 = .ok (.ifCond .ne 15, 3) := by decide +kernel
theorem dL_law_790 : decode cL_law 790 = .ok (.aload_n 3, 1) := by decide +kernel
theorem dL_law_791 : decode cL_law 791 = .ok (.iconst 0, 1) := by decide +kernel
theorem dL_law_792 : decode cL_law 792 = .ok (.laload, 1) := by decide +kernel
theorem dL_law_793 : decode cL_law 793 = .ok (.iload 6, 2) := by decide +kernel
theorem dL_law_795 : decode cL_law 795 = .ok (.i2l, 1) := by decide +kernel
theorem dL_law_796 : decode cL_law 796 = .ok (.lcmp, 1) := by decide +kernel
theorem dL_law_797 : decode cL_law 797 = .ok (.ifCond .eq 5, 3) := by decide +kernel
theorem dL_law_800 : decode cL_law 800 = .ok (.iconst 0, 1) := by decide +kernel
theorem dL_law_801 : decode cL_law 801 = .ok (.ireturn, 1) := by decide +kernel
theorem dL_law_802 : decode cL_law 802 = .ok (.goto 479, 3) := by decide +kernel
theorem dL_law_805 : decode cL_law 805 = .ok (.aload_n 1, 1) := by decide +kernel
theorem dL_law_806 : decode cL_law 806 = .ok (.aload_n 0, 1) := by decide +kernel
theorem dL_law_807 : decode cL_law 807 = .ok (.iload 4, 2) := by decide +kernel
theorem dL_law_809 : decode cL_law 809 = .ok (.iconst 1, 1) := by decide +kernel
theorem dL_law_810 : decode cL_law 810 = .ok (.iadd, 1) := by decide +kernel
theorem dL_law_811 : decode cL_law 811 = .ok (.iaload, 1) := by decide +kernel
theorem dL_law_812 : decode cL_law 812 = .ok (.aload_n 3, 1) := by decide +kernel
theorem dL_law_813 : decode cL_law 813 = .ok (.invokestatic 114, 3) := by decide +kernel
theorem dL_law_816 : decode cL_law 816 = .ok (.istore 5, 2) := by decide +kernel
theorem dL_law_818 : decode cL_law 818 = .ok (.aload_n 2, 1) := by decide +kernel
theorem dL_law_819 : decode cL_law 819 = .ok (.aload_n 0, 1) := by decide +kernel
theorem dL_law_820 : decode cL_law 820 = .ok (.iload 4, 2) := by decide +kernel
theorem dL_law_822 : decode cL_law 822 = .ok (.iconst 1, 1) := by decide +kernel
theorem dL_law_823 : decode cL_law 823 = .ok (.iadd, 1) := by decide +kernel
theorem dL_law_824 : decode cL_law 824 = .ok (.iaload, 1) := by decide +kernel
theorem dL_law_825 : decode cL_law 825 = .ok (.invokevirtual 116, 3) := by decide +kernel
theorem dL_law_828 : decode cL_law 828 = .ok (.istore 6, 2) := by decide +kernel
theorem dL_law_830 : decode cL_law 830 = .ok (.aload_n 2, 1) := by decide +kernel
theorem dL_law_831 : decode cL_law 831 = .ok (.invokevirtual 80, 3) := by decide +kernel
theorem dL_law_834 : decode cL_law 834 = .ok (.iload 5, 2) := by decide +kernel
theorem dL_law_836 : decode cL_law 836 = .ok (.if_icmp .eq 5, 3) := by decide +kernel
theorem dL_law_839 : decode cL_law 839 = .ok (.iconst 0, 1) := by decide +kernel
theorem dL_law_840 : decode cL_law 840 = .ok (.ireturn, 1) := by decide +kernel
theorem dL_law_841 : decode cL_law 841 = .ok (.iload 5, 2) := by decide +kernel
theorem dL_law_843 : decode cL_law 843 = .ok (.ifCond .ne 15, 3) := by decide +kernel
theorem dL_law_846 : decode cL_law 846 = .ok (.aload_n 3, 1) := by decide +kernel
theorem dL_law_847 : decode cL_law 847 = .ok (.iconst 0, 1) := by decide +kernel
theorem dL_law_848 : decode cL_law 848 = .ok (.laload, 1) := by decide +kernel
theorem dL_law_849 : decode cL_law 849 = .ok (.iload 6, 2) := by decide +kernel
theorem dL_law_851 : decode cL_law 851 = .ok (.i2l, 1) := by decide +kernel
theorem dL_law_852 : decode cL_law 852 = .ok (.lcmp, 1) := by decide +kernel
theorem dL_law_853 : decode cL_law 853 = .ok (.ifCond .eq 5, 3) := by decide +kernel
theorem dL_law_856 : decode cL_law 856 = .ok (.iconst 0, 1) := by decide +kernel
theorem dL_law_857 : decode cL_law 857 = .ok (.ireturn, 1) := by decide +kernel
theorem dL_law_858 : decode cL_law 858 = .ok (.goto 423, 3) := by decide +kernel
theorem dL_law_861 : decode cL_law 861 = .ok (.aload_n 1, 1) := by decide +kernel
theorem dL_law_862 : decode cL_law 862 = .ok (.aload_n 0, 1) := by decide +kernel
theorem dL_law_863 : decode cL_law 863 = .ok (.iload 4, 2) := by decide +kernel
theorem dL_law_865 : decode cL_law 865 = .ok (.iconst 1, 1) := by decide +kernel
theorem dL_law_866 : decode cL_law 866 = .ok (.iadd, 1) := by decide +kernel
theorem dL_law_867 : decode cL_law 867 = .ok (.iaload, 1) := by decide +kernel
theorem dL_law_868 : decode cL_law 868 = .ok (.aload_n 0, 1) := by decide +kernel
theorem dL_law_869 : decode cL_law 869 = .ok (.iload 4, 2) := by decide +kernel
theorem dL_law_871 : decode cL_law 871 = .ok (.iconst 2, 1) := by decide +kernel
theorem dL_law_872 : decode cL_law 872 = .ok (.iadd, 1) := by decide +kernel
theorem dL_law_873 : decode cL_law 873 = .ok (.iaload, 1) := by decide +kernel
theorem dL_law_874 : decode cL_law 874 = .ok (.aload_n 3, 1) := by decide +kernel
theorem dL_law_875 : decode cL_law 875 = .ok (.invokestatic 117, 3) := by decide +kernel
theorem dL_law_878 : decode cL_law 878 = .ok (.istore 5, 2) := by decide +kernel
theorem dL_law_880 : decode cL_law 880 = .ok (.aload_n 2, 1) := by decide +kernel
theorem dL_law_881 : decode cL_law 881 = .ok (.aload_n 0, 1) := by decide +kernel
theorem dL_law_882 : decode cL_law 882 = .ok (.iload 4, 2) := by decide +kernel
theorem dL_law_884 : decode cL_law 884 = .ok (.iconst 1, 1) := by decide +kernel
theorem dL_law_885 : decode cL_law 885 = .ok (.iadd, 1) := by decide +kernel
theorem dL_law_886 : decode cL_law 886 = .ok (.iaload, 1) := by decide +kernel
theorem dL_law_887 : decode cL_law 887 = .ok (.aload_n 0, 1) := by decide +kernel
theorem dL_law_888 : decode cL_law 888 = .ok (.iload 4, 2) := by decide +kernel
theorem dL_law_890 : decode cL_law 890 = .ok (.iconst 2, 1) := by decide +kernel
theorem dL_law_891 : decode cL_law 891 = .ok (.iadd, 1) := by decide +kernel
theorem dL_law_892 : decode cL_law 892 = .ok (.iaload, 1) := by decide +kernel
theorem dL_law_893 : decode cL_law 893 = .ok (.invokevirtual 119, 3) := by decide +kernel
theorem dL_law_896 : decode cL_law 896 = .ok (.istore 6, 2) := by decide +kernel
theorem dL_law_898 : decode cL_law 898 = .ok (.aload_n 2, 1) := by decide +kernel
theorem dL_law_899 : decode cL_law 899 = .ok (.invokevirtual 80, 3) := by decide +kernel
theorem dL_law_902 : decode cL_law 902 = .ok (.iload 5, 2) := by decide +kernel
theorem dL_law_904 : decode cL_law 904 = .ok (.if_icmp .eq 5, 3) := by decide +kernel
theorem dL_law_907 : decode cL_law 907 = .ok (.iconst 0, 1) := by decide +kernel
theorem dL_law_908 : decode cL_law 908 = .ok (.ireturn, 1) := by decide +kernel
theorem dL_law_909 : decode cL_law 909 = .ok (.iload 5, 2) := by decide +kernel
theorem dL_law_911 : decode cL_law 911 = .ok (.ifCond .ne 15, 3) := by decide +kernel
theorem dL_law_914 : decode cL_law 914 = .ok (.aload_n 3, 1) := by decide +kernel
theorem dL_law_915 : decode cL_law 915 = .ok (.iconst 0, 1) := by decide +kernel
theorem dL_law_916 : decode cL_law 916 = .ok (.laload, 1) := by decide +kernel
theorem dL_law_917 : decode cL_law 917 = .ok (.iload 6, 2) := by decide +kernel
theorem dL_law_919 : decode cL_law 919 = .ok (.i2l, 1) := by decide +kernel
theorem dL_law_920 : decode cL_law 920 = .ok (.lcmp, 1) := by decide +kernel
theorem dL_law_921 : decode cL_law 921 = .ok (.ifCond .eq 5, 3) := by decide +kernel
theorem dL_law_924 : decode cL_law 924 = .ok (.iconst 0, 1) := by decide +kernel
theorem dL_law_925 : decode cL_law 925 = .ok (.ireturn, 1) := by decide +kernel
theorem dL_law_926 : decode cL_law 926 = .ok (.goto 355, 3) := by decide +kernel
theorem dL_law_929 : decode cL_law 929 = .ok (.aload_n 1, 1) := by decide +kernel
theorem dL_law_930 : decode cL_law 930 = .ok (.aload_n 0, 1) := by decide +kernel
theorem dL_law_931 : decode cL_law 931 = .ok (.iload 4, 2) := by decide +kernel
theorem dL_law_933 : decode cL_law 933 = .ok (.iconst 1, 1) := by decide +kernel
theorem dL_law_934 : decode cL_law 934 = .ok (.iadd, 1) := by decide +kernel
theorem dL_law_935 : decode cL_law 935 = .ok (.iaload, 1) := by decide +kernel
theorem dL_law_936 : decode cL_law 936 = .ok (.aload_n 0, 1) := by decide +kernel
theorem dL_law_937 : decode cL_law 937 = .ok (.iload 4, 2) := by decide +kernel
theorem dL_law_939 : decode cL_law 939 = .ok (.iconst 2, 1) := by decide +kernel
theorem dL_law_940 : decode cL_law 940 = .ok (.iadd, 1) := by decide +kernel
theorem dL_law_941 : decode cL_law 941 = .ok (.iaload, 1) := by decide +kernel
theorem dL_law_942 : decode cL_law 942 = .ok (.aload_n 3, 1) := by decide +kernel
theorem dL_law_943 : decode cL_law 943 = .ok (.invokestatic 120, 3) := by decide +kernel
theorem dL_law_946 : decode cL_law 946 = .ok (.istore 5, 2) := by decide +kernel
theorem dL_law_948 : decode cL_law 948 = .ok (.aload_n 2, 1) := by decide +kernel
theorem dL_law_949 : decode cL_law 949 = .ok (.aload_n 0, 1) := by decide +kernel
theorem dL_law_950 : decode cL_law 950 = .ok (.iload 4, 2) := by decide +kernel
theorem dL_law_952 : decode cL_law 952 = .ok (.iconst 1, 1) := by decide +kernel
theorem dL_law_953 : decode cL_law 953 = .ok (.iadd, 1) := by decide +kernel
theorem dL_law_954 : decode cL_law 954 = .ok (.iaload, 1) := by decide +kernel
theorem dL_law_955 : decode cL_law 955 = .ok (.aload_n 0, 1) := by decide +kernel
theorem dL_law_956 : decode cL_law 956 = .ok (.iload 4, 2) := by decide +kernel
theorem dL_law_958 : decode cL_law 958 = .ok (.iconst 2, 1) := by decide +kernel
theorem dL_law_959 : decode cL_law 959 = .ok (.iadd, 1) := by decide +kernel
theorem dL_law_960 : decode cL_law 960 = .ok (.iaload, 1) := by decide +kernel
theorem dL_law_961 : decode cL_law 961 = .ok (.invokevirtual 122, 3) := by decide +kernel
theorem dL_law_964 : decode cL_law 964 = .ok (.istore 6, 2) := by decide +kernel
theorem dL_law_966 : decode cL_law 966 = .ok (.aload_n 2, 1) := by decide +kernel
theorem dL_law_967 : decode cL_law 967 = .ok (.invokevirtual 80, 3) := by decide +kernel
theorem dL_law_970 : decode cL_law 970 = .ok (.iload 5, 2) := by decide +kernel
theorem dL_law_972 : decode cL_law 972 = .ok (.if_icmp .eq 5, 3) := by decide +kernel
theorem dL_law_975 : decode cL_law 975 = .ok (.iconst 0, 1) := by decide +kernel
theorem dL_law_976 : decode cL_law 976 = .ok (.ireturn, 1) := by decide +kernel
theorem dL_law_977 : decode cL_law 977 = .ok (.iload 5, 2) := by decide +kernel
theorem dL_law_979 : decode cL_law 979 = .ok (.ifCond .ne 15, 3) := by decide +kernel
theorem dL_law_982 : decode cL_law 982 = .ok (.aload_n 3, 1) := by decide +kernel
theorem dL_law_983 : decode cL_law 983 = .ok (.iconst 0, 1) := by decide +kernel
theorem dL_law_984 : decode cL_law 984 = .ok (.laload, 1) := by decide +kernel
theorem dL_law_985 : decode cL_law 985 = .ok (.iload 6, 2) := by decide +kernel
theorem dL_law_987 : decode cL_law 987 = .ok (.i2l, 1) := by decide +kernel
theorem dL_law_988 : decode cL_law 988 = .ok (.lcmp, 1) := by decide +kernel
theorem dL_law_989 : decode cL_law 989 = .ok (.ifCond .eq 5, 3) := by decide +kernel
theorem dL_law_992 : decode cL_law 992 = .ok (.iconst 0, 1) := by decide +kernel
theorem dL_law_993 : decode cL_law 993 = .ok (.ireturn, 1) := by decide +kernel
theorem dL_law_994 : decode cL_law 994 = .ok (.goto 287, 3) := by decide +kernel
theorem dL_law_997 : decode cL_law 997 = .ok (.aload_n 1, 1) := by decide +kernel
theorem dL_law_998 : decode cL_law 998 = .ok (.aload_n 0, 1) := by decide +kernel
theorem dL_law_999 : decode cL_law 999 = .ok (.iload 4, 2) := by decide +kernel
theorem dL_law_1001 : decode cL_law 1001 = .ok (.iconst 1, 1) := by decide +kernel
theorem dL_law_1002 : decode cL_law 1002 = .ok (.iadd, 1) := by decide +kernel
theorem dL_law_1003 : decode cL_law 1003 = .ok (.iaload, 1) := by decide +kernel
theorem dL_law_1004 : decode cL_law 1004 = .ok (.aload_n 3, 1) := by decide +kernel
theorem dL_law_1005 : decode cL_law 1005 = .ok (.invokestatic 123, 3) := by decide +kernel
theorem dL_law_1008 : decode cL_law 1008 = .ok (.istore 5, 2) := by decide +kernel
theorem dL_law_1010 : decode cL_law 1010 = .ok (.aload_n 2, 1) := by decide +kernel
theorem dL_law_1011 : decode cL_law 1011 = .ok (.aload_n 0, 1) := by decide +kernel
theorem dL_law_1012 : decode cL_law 1012 = .ok (.iload 4, 2) := by decide +kernel
theorem dL_law_1014 : decode cL_law 1014 = .ok (.iconst 1, 1) := by decide +kernel
theorem dL_law_1015 : decode cL_law 1015 = .ok (.iadd, 1) := by decide +kernel
theorem dL_law_1016 : decode cL_law 1016 = .ok (.iaload, 1) := by decide +kernel
theorem dL_law_1017 : decode cL_law 1017 = .ok (.invokevirtual 125, 3) := by decide +kernel
theorem dL_law_1020 : decode cL_law 1020 = .ok (.istore 6, 2) := by decide +kernel
theorem dL_law_1022 : decode cL_law 1022 = .ok (.aload_n 2, 1) := by decide +kernel
theorem dL_law_1023 : decode cL_law 1023 = .ok (.invokevirtual 80, 3) := by decide +kernel
theorem dL_law_1026 : decode cL_law 1026 = .ok (.iload 5, 2) := by decide +kernel
theorem dL_law_1028 : decode cL_law 1028 = .ok (.if_icmp .eq 5, 3) := by decide +kernel
theorem dL_law_1031 : decode cL_law 1031 = .ok (.iconst 0, 1) := by decide +kernel
theorem dL_law_1032 : decode cL_law 1032 = .ok (.ireturn, 1) := by decide +kernel
theorem dL_law_1033 : decode cL_law 1033 = .ok (.iload 5, 2) := by decide +kernel
theorem dL_law_1035 : decode cL_law 1035 = .ok (.ifCond .ne 15, 3) := by decide +kernel
theorem dL_law_1038 : decode cL_law 1038 = .ok (.aload_n 3, 1) := by decide +kernel
theorem dL_law_1039 : decode cL_law 1039 = .ok (.iconst 0, 1) := by decide +kernel
theorem dL_law_1040 : decode cL_law 1040 = .ok (.laload, 1) := by decide +kernel
theorem dL_law_1041 : decode cL_law 1041 = .ok (.iload 6, 2) := by decide +kernel
theorem dL_law_1043 : decode cL_law 1043 = .ok (.i2l, 1) := by decide +kernel
theorem dL_law_1044 : decode cL_law 1044 = .ok (.lcmp, 1) := by decide +kernel
theorem dL_law_1045 : decode cL_law 1045 = .ok (.ifCond .eq 5, 3) := by decide +kernel
theorem dL_law_1048 : decode cL_law 1048 = .ok (.iconst 0, 1) := by decide +kernel
theorem dL_law_1049 : decode cL_law 1049 = .ok (.ireturn, 1) := by decide +kernel
theorem dL_law_1050 : decode cL_law 1050 = .ok (.goto 231, 3) := by decide +kernel
theorem dL_law_1053 : decode cL_law 1053 = .ok (.aload_n 1, 1) := by decide +kernel
theorem dL_law_1054 : decode cL_law 1054 = .ok (.aload_n 0, 1) := by decide +kernel
theorem dL_law_1055 : decode cL_law 1055 = .ok (.iload 4, 2) := by decide +kernel
theorem dL_law_1057 : decode cL_law 1057 = .ok (.iconst 1, 1) := by decide +kernel
theorem dL_law_1058 : decode cL_law 1058 = .ok (.iadd, 1) := by decide +kernel
theorem dL_law_1059 : decode cL_law 1059 = .ok (.iaload, 1) := by decide +kernel
theorem dL_law_1060 : decode cL_law 1060 = .ok (.aload_n 0, 1) := by decide +kernel
theorem dL_law_1061 : decode cL_law 1061 = .ok (.iload 4, 2) := by decide +kernel
theorem dL_law_1063 : decode cL_law 1063 = .ok (.iconst 2, 1) := by decide +kernel
theorem dL_law_1064 : decode cL_law 1064 = .ok (.iadd, 1) := by decide +kernel
theorem dL_law_1065 : decode cL_law 1065 = .ok (.iaload, 1) := by decide +kernel
theorem dL_law_1066 : decode cL_law 1066 = .ok (.aload_n 3, 1) := by decide +kernel
theorem dL_law_1067 : decode cL_law 1067 = .ok (.invokestatic 126, 3) := by decide +kernel
theorem dL_law_1070 : decode cL_law 1070 = .ok (.istore 5, 2) := by decide +kernel
theorem dL_law_1072 : decode cL_law 1072 = .ok (.aload_n 2, 1) := by decide +kernel
theorem dL_law_1073 : decode cL_law 1073 = .ok (.aload_n 0, 1) := by decide +kernel
theorem dL_law_1074 : decode cL_law 1074 = .ok (.iload 4, 2) := by decide +kernel
theorem dL_law_1076 : decode cL_law 1076 = .ok (.iconst 1, 1) := by decide +kernel
theorem dL_law_1077 : decode cL_law 1077 = .ok (.iadd, 1) := by decide +kernel
theorem dL_law_1078 : decode cL_law 1078 = .ok (.iaload, 1) := by decide +kernel
theorem dL_law_1079 : decode cL_law 1079 = .ok (.aload_n 0, 1) := by decide +kernel
theorem dL_law_1080 : decode cL_law 1080 = .ok (.iload 4, 2) := by decide +kernel
theorem dL_law_1082 : decode cL_law 1082 = .ok (.iconst 2, 1) := by decide +kernel
theorem dL_law_1083 : decode cL_law 1083 = .ok (.iadd, 1) := by decide +kernel
theorem dL_law_1084 : decode cL_law 1084 = .ok (.iaload, 1) := by decide +kernel
theorem dL_law_1085 : decode cL_law 1085 = .ok (.invokevirtual 128, 3) := by decide +kernel
theorem dL_law_1088 : decode cL_law 1088 = .ok (.istore 6, 2) := by decide +kernel
theorem dL_law_1090 : decode cL_law 1090 = .ok (.aload_n 2, 1) := by decide +kernel
theorem dL_law_1091 : decode cL_law 1091 = .ok (.invokevirtual 80, 3) := by decide +kernel
theorem dL_law_1094 : decode cL_law 1094 = .ok (.iload 5, 2) := by decide +kernel
theorem dL_law_1096 : decode cL_law 1096 = .ok (.if_icmp .eq 5, 3) := by decide +kernel
theorem dL_law_1099 : decode cL_law 1099 = .ok (.iconst 0, 1) := by decide +kernel
theorem dL_law_1100 : decode cL_law 1100 = .ok (.ireturn, 1) := by decide +kernel
theorem dL_law_1101 : decode cL_law 1101 = .ok (.iload 5, 2) := by decide +kernel
theorem dL_law_1103 : decode cL_law 1103 = .ok (.ifCond .ne 15, 3) := by decide +kernel
theorem dL_law_1106 : decode cL_law 1106 = .ok (.aload_n 3, 1) := by decide +kernel
theorem dL_law_1107 : decode cL_law 1107 = .ok (.iconst 0, 1) := by decide +kernel
theorem dL_law_1108 : decode cL_law 1108 = .ok (.laload, 1) := by decide +kernel
theorem dL_law_1109 : decode cL_law 1109 = .ok (.iload 6, 2) := by decide +kernel
theorem dL_law_1111 : decode cL_law 1111 = .ok (.i2l, 1) := by decide +kernel
theorem dL_law_1112 : decode cL_law 1112 = .ok (.lcmp, 1) := by decide +kernel
theorem dL_law_1113 : decode cL_law 1113 = .ok (.ifCond .eq 5, 3) := by decide +kernel
theorem dL_law_1116 : decode cL_law 1116 = .ok (.iconst 0, 1) := by decide +kernel
theorem dL_law_1117 : decode cL_law 1117 = .ok (.ireturn, 1) := by decide +kernel
theorem dL_law_1118 : decode cL_law 1118 = .ok (.goto 163, 3) := by decide +kernel
theorem dL_law_1121 : decode cL_law 1121 = .ok (.aload_n 1, 1) := by decide +kernel
theorem dL_law_1122 : decode cL_law 1122 = .ok (.aload_n 0, 1) := by decide +kernel
theorem dL_law_1123 : decode cL_law 1123 = .ok (.iload 4, 2) := by decide +kernel
theorem dL_law_1125 : decode cL_law 1125 = .ok (.iconst 1, 1) := by decide +kernel
theorem dL_law_1126 : decode cL_law 1126 = .ok (.iadd, 1) := by decide +kernel
theorem dL_law_1127 : decode cL_law 1127 = .ok (.iaload, 1) := by decide +kernel
theorem dL_law_1128 : decode cL_law 1128 = .ok (.aload_n 3, 1) := by decide +kernel
theorem dL_law_1129 : decode cL_law 1129 = .ok (.invokestatic 129, 3) := by decide +kernel
theorem dL_law_1132 : decode cL_law 1132 = .ok (.istore 5, 2) := by decide +kernel
theorem dL_law_1134 : decode cL_law 1134 = .ok (.aload_n 2, 1) := by decide +kernel
theorem dL_law_1135 : decode cL_law 1135 = .ok (.aload_n 0, 1) := by decide +kernel
theorem dL_law_1136 : decode cL_law 1136 = .ok (.iload 4, 2) := by decide +kernel
theorem dL_law_1138 : decode cL_law 1138 = .ok (.iconst 1, 1) := by decide +kernel
theorem dL_law_1139 : decode cL_law 1139 = .ok (.iadd, 1) := by decide +kernel
theorem dL_law_1140 : decode cL_law 1140 = .ok (.iaload, 1) := by decide +kernel
theorem dL_law_1141 : decode cL_law 1141 = .ok (.invokevirtual 131, 3) := by decide +kernel
theorem dL_law_1144 : decode cL_law 1144 = .ok (.istore 6, 2) := by decide +kernel
theorem dL_law_1146 : decode cL_law 1146 = .ok (.aload_n 2, 1) := by decide +kernel
theorem dL_law_1147 : decode cL_law 1147 = .ok (.invokevirtual 80, 3) := by decide +kernel
theorem dL_law_1150 : decode cL_law 1150 = .ok (.iload 5, 2) := by decide +kernel
theorem dL_law_1152 : decode cL_law 1152 = .ok (.if_icmp .eq 5, 3) := by decide +kernel
theorem dL_law_1155 : decode cL_law 1155 = .ok (.iconst 0, 1) := by decide +kernel
theorem dL_law_1156 : decode cL_law 1156 = .ok (.ireturn, 1) := by decide +kernel
theorem dL_law_1157 : decode cL_law 1157 = .ok (.iload 5, 2) := by decide +kernel
theorem dL_law_1159 : decode cL_law 1159 = .ok (.ifCond .ne 15, 3) := by decide +kernel
theorem dL_law_1162 : decode cL_law 1162 = .ok (.aload_n 3, 1) := by decide +kernel
theorem dL_law_1163 : decode cL_law 1163 = .ok (.iconst 0, 1) := by decide +kernel
theorem dL_law_1164 : decode cL_law 1164 = .ok (.laload, 1) := by decide +kernel
theorem dL_law_1165 : decode cL_law 1165 = .ok (.iload 6, 2) := by decide +kernel
theorem dL_law_1167 : decode cL_law 1167 = .ok (.i2l, 1) := by decide +kernel
theorem dL_law_1168 : decode cL_law 1168 = .ok (.lcmp, 1) := by decide +kernel
theorem dL_law_1169 : decode cL_law 1169 = .ok (.ifCond .eq 5, 3) := by decide +kernel
theorem dL_law_1172 : decode cL_law 1172 = .ok (.iconst 0, 1) := by decide +kernel
theorem dL_law_1173 : decode cL_law 1173 = .ok (.ireturn, 1) := by decide +kernel
theorem dL_law_1174 : decode cL_law 1174 = .ok (.goto 107, 3) := by decide +kernel
theorem dL_law_1177 : decode cL_law 1177 = .ok (.aload_n 1, 1) := by decide +kernel
theorem dL_law_1178 : decode cL_law 1178 = .ok (.aload_n 0, 1) := by decide +kernel
theorem dL_law_1179 : decode cL_law 1179 = .ok (.iload 4, 2) := by decide +kernel
theorem dL_law_1181 : decode cL_law 1181 = .ok (.iconst 1, 1) := by decide +kernel
theorem dL_law_1182 : decode cL_law 1182 = .ok (.iadd, 1) := by decide +kernel
theorem dL_law_1183 : decode cL_law 1183 = .ok (.iaload, 1) := by decide +kernel
theorem dL_law_1184 : decode cL_law 1184 = .ok (.aload_n 0, 1) := by decide +kernel
theorem dL_law_1185 : decode cL_law 1185 = .ok (.iload 4, 2) := by decide +kernel
theorem dL_law_1187 : decode cL_law 1187 = .ok (.iconst 2, 1) := by decide +kernel
theorem dL_law_1188 : decode cL_law 1188 = .ok (.iadd, 1) := by decide +kernel
theorem dL_law_1189 : decode cL_law 1189 = .ok (.iaload, 1) := by decide +kernel
theorem dL_law_1190 : decode cL_law 1190 = .ok (.aload_n 0, 1) := by decide +kernel
theorem dL_law_1191 : decode cL_law 1191 = .ok (.iload 4, 2) := by decide +kernel
theorem dL_law_1193 : decode cL_law 1193 = .ok (.iconst 3, 1) := by decide +kernel
theorem dL_law_1194 : decode cL_law 1194 = .ok (.iadd, 1) := by decide +kernel
theorem dL_law_1195 : decode cL_law 1195 = .ok (.iaload, 1) := by decide +kernel
theorem dL_law_1196 : decode cL_law 1196 = .ok (.aload_n 3, 1) := by decide +kernel
theorem dL_law_1197 : decode cL_law 1197 = .ok (.invokestatic 132, 3) := by decide +kernel
theorem dL_law_1200 : decode cL_law 1200 = .ok (.istore 5, 2) := by decide +kernel
theorem dL_law_1202 : decode cL_law 1202 = .ok (.aload_n 2, 1) := by decide +kernel
theorem dL_law_1203 : decode cL_law 1203 = .ok (.aload_n 0, 1) := by decide +kernel
theorem dL_law_1204 : decode cL_law 1204 = .ok (.iload 4, 2) := by decide +kernel
theorem dL_law_1206 : decode cL_law 1206 = .ok (.iconst 1, 1) := by decide +kernel
theorem dL_law_1207 : decode cL_law 1207 = .ok (.iadd, 1) := by decide +kernel
theorem dL_law_1208 : decode cL_law 1208 = .ok (.iaload, 1) := by decide +kernel
theorem dL_law_1209 : decode cL_law 1209 = .ok (.aload_n 0, 1) := by decide +kernel
theorem dL_law_1210 : decode cL_law 1210 = .ok (.iload 4, 2) := by decide +kernel
theorem dL_law_1212 : decode cL_law 1212 = .ok (.iconst 2, 1) := by decide +kernel
theorem dL_law_1213 : decode cL_law 1213 = .ok (.iadd, 1) := by decide +kernel
theorem dL_law_1214 : decode cL_law 1214 = .ok (.iaload, 1) := by decide +kernel
theorem dL_law_1215 : decode cL_law 1215 = .ok (.aload_n 0, 1) := by decide +kernel
theorem dL_law_1216 : decode cL_law 1216 = .ok (.iload 4, 2) := by decide +kernel
theorem dL_law_1218 : decode cL_law 1218 = .ok (.iconst 3, 1) := by decide +kernel
theorem dL_law_1219 : decode cL_law 1219 = .ok (.iadd, 1) := by decide +kernel
theorem dL_law_1220 : decode cL_law 1220 = .ok (.iaload, 1) := by decide +kernel
theorem dL_law_1221 : decode cL_law 1221 = .ok (.invokevirtual 134, 3) := by decide +kernel
theorem dL_law_1224 : decode cL_law 1224 = .ok (.istore 6, 2) := by decide +kernel
theorem dL_law_1226 : decode cL_law 1226 = .ok (.aload_n 2, 1) := by decide +kernel
theorem dL_law_1227 : decode cL_law 1227 = .ok (.invokevirtual 80, 3) := by decide +kernel
theorem dL_law_1230 : decode cL_law 1230 = .ok (.iload 5, 2) := by decide +kernel
theorem dL_law_1232 : decode cL_law 1232 = .ok (.if_icmp .eq 5, 3) := by decide +kernel
theorem dL_law_1235 : decode cL_law 1235 = .ok (.iconst 0, 1) := by decide +kernel
theorem dL_law_1236 : decode cL_law 1236 = .ok (.ireturn, 1) := by decide +kernel
theorem dL_law_1237 : decode cL_law 1237 = .ok (.iload 5, 2) := by decide +kernel
theorem dL_law_1239 : decode cL_law 1239 = .ok (.ifCond .ne 15, 3) := by decide +kernel
theorem dL_law_1242 : decode cL_law 1242 = .ok (.aload_n 3, 1) := by decide +kernel
theorem dL_law_1243 : decode cL_law 1243 = .ok (.iconst 0, 1) := by decide +kernel
theorem dL_law_1244 : decode cL_law 1244 = .ok (.laload, 1) := by decide +kernel
theorem dL_law_1245 : decode cL_law 1245 = .ok (.iload 6, 2) := by decide +kernel
theorem dL_law_1247 : decode cL_law 1247 = .ok (.i2l, 1) := by decide +kernel
theorem dL_law_1248 : decode cL_law 1248 = .ok (.lcmp, 1) := by decide +kernel
theorem dL_law_1249 : decode cL_law 1249 = .ok (.ifCond .eq 5, 3) := by decide +kernel
theorem dL_law_1252 : decode cL_law 1252 = .ok (.iconst 0, 1) := by decide +kernel
theorem dL_law_1253 : decode cL_law 1253 = .ok (.ireturn, 1) := by decide +kernel
theorem dL_law_1254 : decode cL_law 1254 = .ok (.goto 27, 3) := by decide +kernel
theorem dL_law_1257 : decode cL_law 1257 = .ok (.aload_n 1, 1) := by decide +kernel
theorem dL_law_1258 : decode cL_law 1258 = .ok (.invokevirtual 135, 3) := by decide +kernel
theorem dL_law_1261 : decode cL_law 1261 = .ok (.aload_n 2, 1) := by decide +kernel
theorem dL_law_1262 : decode cL_law 1262 = .ok (.invokevirtual 138, 3) := by decide +kernel
theorem dL_law_1265 : decode cL_law 1265 = .ok (.goto 16, 3) := by decide +kernel
theorem dL_law_1268 : decode cL_law 1268 = .ok (.aload_n 1, 1) := by decide +kernel
theorem dL_law_1269 : decode cL_law 1269 = .ok (.invokevirtual 139, 3) := by decide +kernel
theorem dL_law_1272 : decode cL_law 1272 = .ok (.aload_n 2, 1) := by decide +kernel
theorem dL_law_1273 : decode cL_law 1273 = .ok (.invokevirtual 143, 3) := by decide +kernel
theorem dL_law_1276 : decode cL_law 1276 = .ok (.if_icmp .eq 5, 3) := by decide +kernel
theorem dL_law_1279 : decode cL_law 1279 = .ok (.iconst 0, 1) := by decide +kernel
theorem dL_law_1280 : decode cL_law 1280 = .ok (.ireturn, 1) := by decide +kernel
theorem dL_law_1281 : decode cL_law 1281 = .ok (.iinc 4 6, 3) := by decide +kernel
theorem dL_law_1284 : decode cL_law 1284 = .ok (.goto (-1261), 3) := by decide +kernel
theorem dL_law_1287 : decode cL_law 1287 = .ok (.iconst 1, 1) := by decide +kernel
theorem dL_law_1288 : decode cL_law 1288 = .ok (.ireturn, 1) := by decide +kernel
end
section
/-! the small judgement: a method's walk with all parameters of the machine out of sight -/
abbrev mx_H : Type := Bool × List (Nat × Nat) × (Nat → Nat → Int32) × (Nat → Nat → Int64) × (Nat → Nat → Option Nat)
/-- where the program's own cells begin; where the things lie that were there before; the script -/
abbrev mx_X : Type := Nat × (Nat → Nat) × Nat × (Nat → Int32)
abbrev mx_Cs : Type := ClassId × ClassId × ClassId
/-- a method: name, bytes, locals, what it returns, frames, words, table -/
abbrev mx_M : Type := MethodName × ByteArray × Nat × Option FieldType × Nat × Nat × List (Nat × Nat × Nat × Nat)
abbrev mx_y (μ : mx_M) : MethodName := μ.1
abbrev mx_b (μ : mx_M) : ByteArray := μ.2.1
abbrev mx_nl (μ : mx_M) : Nat := μ.2.2.1
abbrev mx_rt (μ : mx_M) : Option FieldType := μ.2.2.2.1
abbrev mx_fr (μ : mx_M) : Nat := μ.2.2.2.2.1
abbrev mx_lo (μ : mx_M) : Nat := μ.2.2.2.2.2.1
abbrev mx_tb (μ : mx_M) : List (Nat × Nat × Nat × Nat) := μ.2.2.2.2.2.2
def mx_ad (X : mx_X) (k : Nat) : Nat := if k < 1000 then X.1 + k else X.2.1 (k - 1000)
def mx_v (X : mx_X) (v : Value) : Value := match v with
  | .ref k => .ref (mx_ad X k)
  | .int x => .int x
  | .long x => .long x
  | .float x => .float x
  | .double x => .double x
  | .null => .null
  | .retAddr x => .retAddr x
theorem mx_v_cat (X : mx_X) (v : Value) : (mx_v X v).category = v.category := by cases v <;> rfl
def mx_ty (c k : Nat) : FieldType := match c with
  | 0 => tyX0 k
  | 1 => tyX1 k
  | 2 => tyX2 k
  | 3 => tyX3 k
  | 4 => tyX4 k
  | 5 => tyX5 k
  | 6 => tyX6 k
  | _ => tyX7 k
def mx_isI (t : FieldType) : Bool := match t with
  | .int => true
  | .boolean => true
  | _ => false
def mx_fv (X : mx_X) (c : Nat) (h : mx_H) (a i : Nat) : Value := if mx_isI (mx_ty c i) = true then .int (h.2.2.1 a i) else va_rf ((h.2.2.2.2 a i).map (mx_ad X))
def mx_cell (X : mx_X) (C : mx_Cs) (h : mx_H) (k : Nat) (q : Nat × Nat) : va_E := match q.1 with
  | 0 => .inl (C.1, q.2, .inl (h.2.2.1 k))
  | 1 => .inl (C.2.1, q.2, .inr (.inl (h.2.2.2.1 k)))
  | 2 => .inl (C.2.2, q.2, .inr (.inr (.inr (.inr (fun i => (h.2.2.2.2 k i).map (mx_ad X))))))
  | c + 3 => .inr (c, (List.range q.2).map (mx_fv X c h k))
def mx_w (X : mx_X) (C : mx_Cs) (h : mx_H) : va_W := h.2.1.mapIdx (fun k q => (X.1 + k, mx_cell X C h k q))
theorem mx_w_at {X : mx_X} {C : mx_Cs} {h : mx_H} {k : Nat} {q : Nat × Nat} (hk : h.2.1[k]? = some q) : (mx_w X C h)[k]? = some (X.1 + k, mx_cell X C h k q) := by
  simp [mx_w, hk]
theorem mx_w_of {X : mx_X} {C : mx_Cs} {h : mx_H} {k : Nat} {z : Nat × va_E} (hk : (mx_w X C h)[k]? = some z) : z.1 = X.1 + k := by
  simp only [mx_w, List.getElem?_mapIdx, Option.map_eq_some_iff] at hk
  obtain ⟨q, -, rfl⟩ := hk
  rfl
def mx_A (X : mx_X) : Nat → Prop := fun q => X.1 ≤ q
theorem mx_w_D (X : mx_X) (C : mx_Cs) (h : mx_H) : va_D (mx_A X) (mx_w X C h) := by
  refine ⟨fun i j p q hi hj e => ?_, fun k q hk => ?_⟩
  · have e1 := mx_w_of hi
    have e2 := mx_w_of hj
    omega
  · have e1 := mx_w_of hk
    show X.1 ≤ q.1
    omega
/-- the heap holds h -/
def mx_R (X : mx_X) (C : mx_Cs) (D : va_G) (h : mx_H) (H : Heap) : Prop := va_P D vwCl (mx_w X C h) H ∧ (h.1 = true → H.size = X.1 + h.2.1.length) ∧ X.1 ≤ H.size
def mx_T : List Cond := lw_tbl.filter goodWord
theorem mx_in {w : Cond} (h : w ∈ lw_tbl) (g : goodWord w = true) : w ∈ mx_T := List.mem_filter.mpr ⟨h, g⟩
theorem mx_good : GoodIn mx_T mx_T := fun w h => ⟨h, good_of_word (List.mem_filter.mp h).2⟩
/-- words that the tables alone decide, carried by hand -/
def mx_bok (w : Cond) : Bool := match w with
  | .methodLinkNest .. => true
  | .castable .. => true
  | .declares _ => true
  | _ => false
def mx_Bd : List Cond := lw_tbl.filter mx_bok
theorem mx_inB {w : Cond} (h : w ∈ lw_tbl) (g : mx_bok w = true) : w ∈ mx_Bd := List.mem_filter.mpr ⟨h, g⟩
theorem mx_bok_warm {w : Cond} (g : mx_bok w = true) {s U : State} (hW : s.WarmedH U.vm) (h : va_Nw w s) : va_Nw w U := by
  cases w <;> first | (exact va_Nw.warmM hW h) | (exact va_Nw.warmC hW h) | (exact va_Nw.warmD hW h) | (cases g)
theorem mx_bok_tab {w : Cond} (g : mx_bok w = true) : w.onTables = true := by
  cases w <;> first | rfl | (cases g)
abbrev mx_tys (C : mx_Cs) : List (ClassId × FieldType) := [(C.1, .int), (C.2.1, .long), (C.2.2, .object "java/lang/String")]
/-- what the one static row holds -/
def mx_dn (j : Nat) : Int32 := ([-1, 1, 2, 3, 5, 6, 7] : List Int32).getD j 0
/-- the String constants: owner, place, text -/
def mx_st : List (String × Nat × String) := [("LampValley$Reader", 89, "plain shy bold drunk widow full likes step near fright easter fog "), ("LampValleyModel", 9, "plain"), ("LampValleyModel", 11, "shy"), ("LampValleyModel", 13, "bold"), ("LampValleyModel", 15, "drunk"), ("LampValleyModel", 17, "widow"), ("LampValleyModel", 25, "step"), ("LampValleyModel", 27, "near"), ("LampValleyModel", 29, "fright"), ("LampValleyModel", 31, "easter"), ("LampValleyModel", 217, "full"), ("LampValleyModel", 226, "likes"), ("LampValleyModel", 230, "fog")]
def mx_sl : List Nat := [66, 5, 3, 4, 5, 5, 4, 4, 6, 6, 4, 5, 3]
def mx_sb : List (List Int32) := [[112, 108, 97, 105, 110, 32, 115, 104, 121, 32, 98, 111, 108, 100, 32, 100, 114, 117, 110, 107, 32, 119, 105, 100, 111, 119, 32, 102, 117, 108, 108, 32, 108, 105, 107, 101, 115, 32, 115, 116, 101, 112, 32, 110, 101, 97, 114, 32, 102, 114, 105, 103, 104, 116, 32, 101, 97, 115, 116, 101, 114, 32, 102, 111, 103, 32], [112, 108, 97, 105, 110], [115, 104, 121], [98, 111, 108, 100], [100, 114, 117, 110, 107], [119, 105, 100, 111, 119], [115, 116, 101, 112], [110, 101, 97, 114], [102, 114, 105, 103, 104, 116], [101, 97, 115, 116, 101, 114], [102, 117, 108, 108], [108, 105, 107, 101, 115], [102, 111, 103]]
/-- what is known of the tables and of what lies outside the program's own cells -/
def mx_K (X : mx_X) (C : mx_Cs) (D : va_G) (U : State) (H : Heap) : Prop :=
  va_K D vwCl (mx_tys C) U ∧ (∀ w ∈ mx_Bd, va_Nw w U) ∧ va_AO "java/lang/String" U ∧
  (vx_Zq Bundle.tN "UNASSIGNED_STACK" Bundle.steD (mx_A X) U H ∧ vx_Zq Bundle.tN "SUPPRESSED_SENTINEL" Bundle.listD (mx_A X) U H) ∧
  (va_Z "LampValley$Council" "DROP_NUMBERS" "[I" (.ref (X.2.1 14)) (mx_A X) U H ∧ va_T .int (X.2.1 14) 7 (fun j => .int (mx_dn j)) (mx_A X) U H) ∧
  (va_Z "java/lang/String" "COMPACT_STRINGS" "Z" (.int 1) (mx_A X) U H ∧ (va_Z "jdk/internal/util/Preconditions" "SIOOBE_FORMATTER" "Ljava/util/function/BiFunction;" .null (mx_A X) U H ∨ va_Z "jdk/internal/util/Preconditions" "SIOOBE_FORMATTER" "Ljava/util/function/BiFunction;" (.ref (X.2.1 100)) (mx_A X) U H)) ∧
  (vk_S 13 mx_sl mx_sb (fun i => X.2.1 (1 + i)) (fun i => X.2.1 (51 + i)) (mx_A X) U H ∧ ∀ (i : Nat) (q : String × Nat × String), mx_st[i]? = some q → vk_R q.1 q.2.1 q.2.2 (X.2.1 (1 + i)) U) ∧
  (va_X (X.2.1 0) X.2.2.1 X.2.2.2 U H ∧ X.2.1 0 < X.1 ∧ X.1 ≤ H.size ∧ X.2.2.1 ≤ 3072)
theorem mx_K.go {X : mx_X} {C : mx_Cs} {D : va_G} {s U : State} {H H1 : Heap} (h : mx_K X C D s H) (hW : s.WarmedH U.vm) (hz : H.size ≤ H1.size) (hq : ∀ a : Nat, a < H.size → ¬ mx_A X a → H1[a]? = H[a]?) : mx_K X C D U H1 := by
  obtain ⟨h1, h2, h3, ⟨h4, h5⟩, ⟨h6, h7⟩, ⟨h8, h9⟩, ⟨h10, h11⟩, ⟨h12, h13, h14, h15⟩⟩ := h
  have ha := hW.alike
  refine ⟨va_K.moved ha h1, fun w hw => mx_bok_warm (List.mem_filter.mp hw).2 hW (h2 w hw), va_AO.moved ha h3, ⟨(h4.moved ha).kept hq, (h5.moved ha).kept hq⟩, ⟨(h6.moved ha).kept hq, (h7.moved ha).kept hq⟩, ⟨(h8.moved ha).kept hq, ?_⟩, ⟨(h10.moved ha).kept hq, fun i q hi => (h11 i q hi).warm hW⟩, ⟨(h12.moved ha).kept (hq _ (by omega) (by show ¬ X.1 ≤ _; omega)), h13, by omega, h15⟩⟩
  rcases h9 with h9 | h9
  · exact Or.inl ((h9.moved ha).kept hq)
  · exact Or.inr ((h9.moved ha).kept hq)
/-- the same tables, the same heap -/
theorem mx_K.same {X : mx_X} {C : mx_Cs} {D : va_G} {s U : State} {H : Heap} (h : mx_K X C D s H) (hv : U.vm = s.vm) : mx_K X C D U H := by
  obtain ⟨h1, h2, h3, ⟨h4, h5⟩, ⟨h6, h7⟩, ⟨h8, h9⟩, ⟨h10, h11⟩, ⟨h12, h13, h14, h15⟩⟩ := h
  have ha : s.vm.Alike U.vm := by rw [hv]; exact Vm.Alike.refl _
  refine ⟨va_K.moved ha h1, fun w hw => va_Nw.same (mx_bok_tab (List.mem_filter.mp hw).2) hv.symm (h2 w hw), va_AO.moved ha h3, ⟨h4.moved ha, h5.moved ha⟩, ⟨h6.moved ha, h7.moved ha⟩, ⟨h8.moved ha, ?_⟩, ⟨h10.moved ha, fun i q hi => (h11 i q hi).same hv⟩, ⟨h12.moved ha, h13, h14, h15⟩⟩
  rcases h9 with h9 | h9
  · exact Or.inl (h9.moved ha)
  · exact Or.inr (h9.moved ha)
/-- the locals -/
def mx_L (X : mx_X) (nL : Nat) (lc : Array Slot) (ls : List (Option Value)) : Prop := lc.size = nL ∧ lv_wf lc ∧ ∀ (i : Nat) (v : Value), ls[i]? = some (some v) → lc[i]? = some (Slot.val (mx_v X v))
/-- what a walk stands on -/
def mx_I (μ : mx_M) (X : mx_X) (C : mx_Cs) (D : va_G) (p : Program) (l : Launch) (R : Room) (s : State) (m : MethodId) (args : Array Value) (meth : Method) (c : Code) : Prop :=
  p.tables.exec = Jvm.exec ∧ c.code = mx_b μ ∧ c.maxLocals = mx_nl μ ∧ s.vm.findClass (mx_y μ).cls = some m.cls ∧ (∀ w ∈ mx_T, w.before args s = true) ∧ meth.locks = false ∧ meth.sig.returnType = mx_rt μ ∧ meth.name = (mx_y μ).name ∧ c.exceptionTable.toList = tableOf (mx_tb μ) ∧
  l.stackTraces = false ∧ mx_K X C D s s.heap ∧ mx_fr μ ≤ R.frames ∧ mx_lo μ ≤ R.locals
def mx_Qc (X : mx_X) (C : mx_Cs) (D : va_G) (f0 : Bool) (mc : Nat) (P : Option Value → mx_H → Prop) : Array Value → State → Outcome → State → Prop := fun _ st o t => (∃ v h, o = .returned (v.map (mx_v X)) ∧ P v h ∧ mx_R X C D h t.heap ∧ (h.1 = true → f0 = true ∧ st.heap.size + mc ≤ t.heap.size)) ∧ va_F (mx_A X) st t
def mx_XC (X : mx_X) (C : mx_Cs) (D : va_G) (PX : String → mx_H → Prop) : String → State → State → Prop := fun E st t => (∃ h, PX E h ∧ mx_R X C D h t.heap) ∧ va_F (mx_A X) st t
/-- from here, with at most bc cells of bs slots, the method comes to its end with P, or throws with PX -/
def mx_E (μ : mx_M) (pc : Nat) (ls : List (Option Value)) (st : List Value) (h : mx_H) (bc bs : Nat) (P : Option Value → mx_H → Prop) (PX : String → mx_H → Prop) : Prop :=
  ∀ (X : mx_X) (C : mx_Cs) (D : va_G) (p : Program) (l : Launch) (e : Env) (R : Room) (s : State) (m : MethodId) (args : Array Value) (below : List Frame) (meth : Method) (c : Code) (H : Heap) (locs : List Loc) (cells slots mc ms : Nat) (lc : Array Slot) (f0 : Bool),
    mx_I μ X C D p l R s m args meth c → mx_L X (mx_nl μ) lc ls → mx_R X C D h H → va_S (mx_A X) s.heap H locs → cells + bc = mc → slots + bs = ms → mc ≤ R.cells → ms ≤ R.slots → (h.1 = true → f0 = true ∧ s.heap.size + cells ≤ H.size) →
    W p l e R s m args below meth c H locs cells slots (vx_MQ below (mx_Qc X C D f0 mc P) (mx_XC X C D PX) args s mc ms (mx_A X)) (F0 m pc lc (st.map (mx_v X)))
def mx_cw (μ : mx_M) : Cond := if mx_tb μ = [] then .code (mx_y μ) (mx_b μ) (mx_nl μ) (mx_rt μ) else .codeWith (mx_y μ) (mx_b μ) (mx_nl μ) (mx_rt μ) (mx_tb μ)
def mx_Pc (X : mx_X) (C : mx_Cs) (D : va_G) (av : List Value) (h : mx_H) : Array Value → State → Prop := fun a U => a = (av.map (mx_v X)).toArray ∧ mx_R X C D h U.heap ∧ mx_K X C D U U.heap
/-- a method's contract: called with av over h it returns with P or throws with PX, with at most bc new cells of bs slots -/
def mx_C (μ : mx_M) (av : List Value) (h : mx_H) (bc bs : Nat) (P : Option Value → mx_H → Prop) (PX : String → mx_H → Prop) : Prop :=
  ∀ (X : mx_X) (C : mx_Cs) (D : va_G) (l : Launch), l.stackTraces = false → vx_Met l (mx_y μ) (mx_cw μ :: mx_T) ({ frames := mx_fr μ, cells := bc, slots := bs, locals := mx_lo μ } : Room) (mx_Pc X C D av h) (mx_Qc X C D h.1 bc P) (mx_XC X C D PX) bc bs (mx_A X)
end
section
section MXR
variable {μ : mx_M} {pc : Nat} {ls : List (Option Value)} {st : List Value} {h : mx_H} {bc bs : Nat} {P : Option Value → mx_H → Prop} {PX : String → mx_H → Prop}
theorem ms_iconst {n : Int} (hd : decode (mx_b μ) pc = .ok (.iconst n, 1)) (k : mx_E μ (pc + 1) ls (.int (Int32.ofInt n) :: st) h bc bs P PX) : mx_E μ pc ls st h bc bs P PX := by
  intro X C D p l e R s m args below meth c H locs cells slots mc ms lc f0 hI hL hR hS h1 h2 h3 h4 h5
  exact lv_iconst hI.1 hI.2.1 hd rfl (k X C D p l e R s m args below meth c H locs cells slots mc ms lc f0 hI hL hR hS h1 h2 h3 h4 h5)
theorem ms_bipush {n : Int} {v : Int32} (hd : decode (mx_b μ) pc = .ok (.bipush n, 2)) (hv : (Int8.ofInt n).toInt32 = v) (k : mx_E μ (pc + 2) ls (.int v :: st) h bc bs P PX) : mx_E μ pc ls st h bc bs P PX := by
  intro X C D p l e R s m args below meth c H locs cells slots mc ms lc f0 hI hL hR hS h1 h2 h3 h4 h5
  exact lv_bipush hI.1 hI.2.1 hd hv (k X C D p l e R s m args below meth c H locs cells slots mc ms lc f0 hI hL hR hS h1 h2 h3 h4 h5)
theorem ms_sipush {n : Int} {v : Int32} (hd : decode (mx_b μ) pc = .ok (.sipush n, 3)) (hv : (Int16.ofInt n).toInt32 = v) (k : mx_E μ (pc + 3) ls (.int v :: st) h bc bs P PX) : mx_E μ pc ls st h bc bs P PX := by
  intro X C D p l e R s m args below meth c H locs cells slots mc ms lc f0 hI hL hR hS h1 h2 h3 h4 h5
  exact lv_sipush hI.1 hI.2.1 hd hv (k X C D p l e R s m args below meth c H locs cells slots mc ms lc f0 hI hL hR hS h1 h2 h3 h4 h5)
theorem ms_lconst {n : Fin 2} {v : Int64} (hd : decode (mx_b μ) pc = .ok (.lconst n, 1)) (hv : Int64.ofNat (n : Nat) = v) (k : mx_E μ (pc + 1) ls (.long v :: st) h bc bs P PX) : mx_E μ pc ls st h bc bs P PX := by
  intro X C D p l e R s m args below meth c H locs cells slots mc ms lc f0 hI hL hR hS h1 h2 h3 h4 h5
  exact lv_lconst hI.1 hI.2.1 hd hv (k X C D p l e R s m args below meth c H locs cells slots mc ms lc f0 hI hL hR hS h1 h2 h3 h4 h5)
theorem ms_iload_n {k0 : Fin 4} {x : Int32} (hd : decode (mx_b μ) pc = .ok (.iload_n k0, 1)) (hl : ls[(k0 : Nat)]? = some (some (.int x))) (k : mx_E μ (pc + 1) ls (.int x :: st) h bc bs P PX) : mx_E μ pc ls st h bc bs P PX := by
  intro X C D p l e R s m args below meth c H locs cells slots mc ms lc f0 hI hL hR hS h1 h2 h3 h4 h5
  exact lv_iload_n hI.1 hI.2.1 hd rfl (hL.2.2 _ _ hl) (k X C D p l e R s m args below meth c H locs cells slots mc ms lc f0 hI hL hR hS h1 h2 h3 h4 h5)
theorem ms_iload {i : Nat} {x : Int32} (hd : decode (mx_b μ) pc = .ok (.iload i, 2)) (hl : ls[i]? = some (some (.int x))) (k : mx_E μ (pc + 2) ls (.int x :: st) h bc bs P PX) : mx_E μ pc ls st h bc bs P PX := by
  intro X C D p l e R s m args below meth c H locs cells slots mc ms lc f0 hI hL hR hS h1 h2 h3 h4 h5
  exact lv_iload hI.1 hI.2.1 hd (hL.2.2 _ _ hl) (k X C D p l e R s m args below meth c H locs cells slots mc ms lc f0 hI hL hR hS h1 h2 h3 h4 h5)
theorem ms_lload_n {k0 : Fin 4} {x : Int64} (hd : decode (mx_b μ) pc = .ok (.lload_n k0, 1)) (hl : ls[(k0 : Nat)]? = some (some (.long x))) (k : mx_E μ (pc + 1) ls (.long x :: st) h bc bs P PX) : mx_E μ pc ls st h bc bs P PX := by
  intro X C D p l e R s m args below meth c H locs cells slots mc ms lc f0 hI hL hR hS h1 h2 h3 h4 h5
  exact lv_lload_n hI.1 hI.2.1 hd rfl (hL.2.2 _ _ hl) (k X C D p l e R s m args below meth c H locs cells slots mc ms lc f0 hI hL hR hS h1 h2 h3 h4 h5)
theorem ms_aload_n {k0 : Fin 4} {x : Nat} (hd : decode (mx_b μ) pc = .ok (.aload_n k0, 1)) (hl : ls[(k0 : Nat)]? = some (some (.ref x))) (k : mx_E μ (pc + 1) ls (.ref x :: st) h bc bs P PX) : mx_E μ pc ls st h bc bs P PX := by
  intro X C D p l e R s m args below meth c H locs cells slots mc ms lc f0 hI hL hR hS h1 h2 h3 h4 h5
  exact lv_aload_n hI.1 hI.2.1 hd rfl (hL.2.2 _ _ hl) (k X C D p l e R s m args below meth c H locs cells slots mc ms lc f0 hI hL hR hS h1 h2 h3 h4 h5)
theorem ms_aload {i : Nat} {x : Nat} (hd : decode (mx_b μ) pc = .ok (.aload i, 2)) (hl : ls[i]? = some (some (.ref x))) (k : mx_E μ (pc + 2) ls (.ref x :: st) h bc bs P PX) : mx_E μ pc ls st h bc bs P PX := by
  intro X C D p l e R s m args below meth c H locs cells slots mc ms lc f0 hI hL hR hS h1 h2 h3 h4 h5
  exact lv_aload hI.1 hI.2.1 hd (hL.2.2 _ _ hl) (k X C D p l e R s m args below meth c H locs cells slots mc ms lc f0 hI hL hR hS h1 h2 h3 h4 h5)
theorem ms_iadd {x y : Int32} (hd : decode (mx_b μ) pc = .ok (.iadd, 1)) (k : mx_E μ (pc + 1) ls (.int (x + y) :: st) h bc bs P PX) : mx_E μ pc ls (.int y :: .int x :: st) h bc bs P PX := by
  intro X C D p l e R s m args below meth c H locs cells slots mc ms lc f0 hI hL hR hS h1 h2 h3 h4 h5
  exact lv_iadd hI.1 hI.2.1 hd (k X C D p l e R s m args below meth c H locs cells slots mc ms lc f0 hI hL hR hS h1 h2 h3 h4 h5)
theorem ms_isub {x y : Int32} (hd : decode (mx_b μ) pc = .ok (.isub, 1)) (k : mx_E μ (pc + 1) ls (.int (x - y) :: st) h bc bs P PX) : mx_E μ pc ls (.int y :: .int x :: st) h bc bs P PX := by
  intro X C D p l e R s m args below meth c H locs cells slots mc ms lc f0 hI hL hR hS h1 h2 h3 h4 h5
  exact lv_isub hI.1 hI.2.1 hd (k X C D p l e R s m args below meth c H locs cells slots mc ms lc f0 hI hL hR hS h1 h2 h3 h4 h5)
theorem ms_imul {x y : Int32} (hd : decode (mx_b μ) pc = .ok (.imul, 1)) (k : mx_E μ (pc + 1) ls (.int (x * y) :: st) h bc bs P PX) : mx_E μ pc ls (.int y :: .int x :: st) h bc bs P PX := by
  intro X C D p l e R s m args below meth c H locs cells slots mc ms lc f0 hI hL hR hS h1 h2 h3 h4 h5
  exact lv_imul hI.1 hI.2.1 hd (k X C D p l e R s m args below meth c H locs cells slots mc ms lc f0 hI hL hR hS h1 h2 h3 h4 h5)
theorem ms_iand {x y : Int32} (hd : decode (mx_b μ) pc = .ok (.iand, 1)) (k : mx_E μ (pc + 1) ls (.int (x &&& y) :: st) h bc bs P PX) : mx_E μ pc ls (.int y :: .int x :: st) h bc bs P PX := by
  intro X C D p l e R s m args below meth c H locs cells slots mc ms lc f0 hI hL hR hS h1 h2 h3 h4 h5
  exact lv_iand hI.1 hI.2.1 hd (k X C D p l e R s m args below meth c H locs cells slots mc ms lc f0 hI hL hR hS h1 h2 h3 h4 h5)
theorem ms_ior {x y : Int32} (hd : decode (mx_b μ) pc = .ok (.ior, 1)) (k : mx_E μ (pc + 1) ls (.int (x ||| y) :: st) h bc bs P PX) : mx_E μ pc ls (.int y :: .int x :: st) h bc bs P PX := by
  intro X C D p l e R s m args below meth c H locs cells slots mc ms lc f0 hI hL hR hS h1 h2 h3 h4 h5
  exact lv_ior hI.1 hI.2.1 hd (k X C D p l e R s m args below meth c H locs cells slots mc ms lc f0 hI hL hR hS h1 h2 h3 h4 h5)
theorem ms_ixor {x y : Int32} (hd : decode (mx_b μ) pc = .ok (.ixor, 1)) (k : mx_E μ (pc + 1) ls (.int (x ^^^ y) :: st) h bc bs P PX) : mx_E μ pc ls (.int y :: .int x :: st) h bc bs P PX := by
  intro X C D p l e R s m args below meth c H locs cells slots mc ms lc f0 hI hL hR hS h1 h2 h3 h4 h5
  exact lv_ixor hI.1 hI.2.1 hd (k X C D p l e R s m args below meth c H locs cells slots mc ms lc f0 hI hL hR hS h1 h2 h3 h4 h5)
theorem ms_ishl {x y : Int32} (hd : decode (mx_b μ) pc = .ok (.ishl, 1)) (k : mx_E μ (pc + 1) ls (.int (x <<< (y &&& 31)) :: st) h bc bs P PX) : mx_E μ pc ls (.int y :: .int x :: st) h bc bs P PX := by
  intro X C D p l e R s m args below meth c H locs cells slots mc ms lc f0 hI hL hR hS h1 h2 h3 h4 h5
  exact lv_ishl hI.1 hI.2.1 hd (k X C D p l e R s m args below meth c H locs cells slots mc ms lc f0 hI hL hR hS h1 h2 h3 h4 h5)
theorem ms_ishr {x y : Int32} (hd : decode (mx_b μ) pc = .ok (.ishr, 1)) (k : mx_E μ (pc + 1) ls (.int (x >>> (y &&& 31)) :: st) h bc bs P PX) : mx_E μ pc ls (.int y :: .int x :: st) h bc bs P PX := by
  intro X C D p l e R s m args below meth c H locs cells slots mc ms lc f0 hI hL hR hS h1 h2 h3 h4 h5
  exact lv_ishr hI.1 hI.2.1 hd (k X C D p l e R s m args below meth c H locs cells slots mc ms lc f0 hI hL hR hS h1 h2 h3 h4 h5)
theorem ms_idiv {x y : Int32} (hd : decode (mx_b μ) pc = .ok (.idiv, 1)) (hne : ¬ y = 0) (k : mx_E μ (pc + 1) ls (.int (x / y) :: st) h bc bs P PX) : mx_E μ pc ls (.int y :: .int x :: st) h bc bs P PX := by
  intro X C D p l e R s m args below meth c H locs cells slots mc ms lc f0 hI hL hR hS h1 h2 h3 h4 h5
  exact lv_idiv hI.1 hI.2.1 hd hne (k X C D p l e R s m args below meth c H locs cells slots mc ms lc f0 hI hL hR hS h1 h2 h3 h4 h5)
theorem ms_irem {x y : Int32} (hd : decode (mx_b μ) pc = .ok (.irem, 1)) (hne : ¬ y = 0) (k : mx_E μ (pc + 1) ls (.int (x - x / y * y) :: st) h bc bs P PX) : mx_E μ pc ls (.int y :: .int x :: st) h bc bs P PX := by
  intro X C D p l e R s m args below meth c H locs cells slots mc ms lc f0 hI hL hR hS h1 h2 h3 h4 h5
  exact lv_irem hI.1 hI.2.1 hd hne (k X C D p l e R s m args below meth c H locs cells slots mc ms lc f0 hI hL hR hS h1 h2 h3 h4 h5)
theorem ms_ineg {x : Int32} (hd : decode (mx_b μ) pc = .ok (.ineg, 1)) (k : mx_E μ (pc + 1) ls (.int (-x) :: st) h bc bs P PX) : mx_E μ pc ls (.int x :: st) h bc bs P PX := by
  intro X C D p l e R s m args below meth c H locs cells slots mc ms lc f0 hI hL hR hS h1 h2 h3 h4 h5
  exact lv_ineg hI.1 hI.2.1 hd (k X C D p l e R s m args below meth c H locs cells slots mc ms lc f0 hI hL hR hS h1 h2 h3 h4 h5)
theorem ms_iushr {x y : Int32} (hd : decode (mx_b μ) pc = .ok (.iushr, 1)) (k : mx_E μ (pc + 1) ls (.int ((x.toUInt32 >>> (y.toUInt32 &&& Int32.toUInt32 31)).toInt32) :: st) h bc bs P PX) : mx_E μ pc ls (.int y :: .int x :: st) h bc bs P PX := by
  intro X C D p l e R s m args below meth c H locs cells slots mc ms lc f0 hI hL hR hS h1 h2 h3 h4 h5
  exact lv_iushr hI.1 hI.2.1 hd rfl (k X C D p l e R s m args below meth c H locs cells slots mc ms lc f0 hI hL hR hS h1 h2 h3 h4 h5)
theorem ms_i2l {x : Int32} (hd : decode (mx_b μ) pc = .ok (.i2l, 1)) (k : mx_E μ (pc + 1) ls (.long x.toInt64 :: st) h bc bs P PX) : mx_E μ pc ls (.int x :: st) h bc bs P PX := by
  intro X C D p l e R s m args below meth c H locs cells slots mc ms lc f0 hI hL hR hS h1 h2 h3 h4 h5
  exact lv_i2l hI.1 hI.2.1 hd rfl (k X C D p l e R s m args below meth c H locs cells slots mc ms lc f0 hI hL hR hS h1 h2 h3 h4 h5)
theorem ms_i2c {x : Int32} (hd : decode (mx_b μ) pc = .ok (.i2c, 1)) (k : mx_E μ (pc + 1) ls (.int ((x.toUInt32 % 65536).toInt32) :: st) h bc bs P PX) : mx_E μ pc ls (.int x :: st) h bc bs P PX := by
  intro X C D p l e R s m args below meth c H locs cells slots mc ms lc f0 hI hL hR hS h1 h2 h3 h4 h5
  exact lv_i2c hI.1 hI.2.1 hd rfl (k X C D p l e R s m args below meth c H locs cells slots mc ms lc f0 hI hL hR hS h1 h2 h3 h4 h5)
theorem ms_lor {x y : Int64} (hd : decode (mx_b μ) pc = .ok (.lor, 1)) (k : mx_E μ (pc + 1) ls (.long (x ||| y) :: st) h bc bs P PX) : mx_E μ pc ls (.long y :: .long x :: st) h bc bs P PX := by
  intro X C D p l e R s m args below meth c H locs cells slots mc ms lc f0 hI hL hR hS h1 h2 h3 h4 h5
  exact lv_lor hI.1 hI.2.1 hd (k X C D p l e R s m args below meth c H locs cells slots mc ms lc f0 hI hL hR hS h1 h2 h3 h4 h5)
theorem ms_lshl {x : Int64} {y : Int32} (hd : decode (mx_b μ) pc = .ok (.lshl, 1)) (k : mx_E μ (pc + 1) ls (.long (x <<< (y.toInt64 &&& 63)) :: st) h bc bs P PX) : mx_E μ pc ls (.int y :: .long x :: st) h bc bs P PX := by
  intro X C D p l e R s m args below meth c H locs cells slots mc ms lc f0 hI hL hR hS h1 h2 h3 h4 h5
  exact lv_lshl hI.1 hI.2.1 hd rfl (k X C D p l e R s m args below meth c H locs cells slots mc ms lc f0 hI hL hR hS h1 h2 h3 h4 h5)
theorem ms_lcmp {x y : Int64} (hd : decode (mx_b μ) pc = .ok (.lcmp, 1)) (k : mx_E μ (pc + 1) ls (.int (lg_cmp x y) :: st) h bc bs P PX) : mx_E μ pc ls (.long y :: .long x :: st) h bc bs P PX := by
  intro X C D p l e R s m args below meth c H locs cells slots mc ms lc f0 hI hL hR hS h1 h2 h3 h4 h5
  exact W.lcmp hI.1 hI.2.1 hd (k X C D p l e R s m args below meth c H locs cells slots mc ms lc f0 hI hL hR hS h1 h2 h3 h4 h5)
theorem ms_dup {va : Value} (hd : decode (mx_b μ) pc = .ok (.dup, 1)) (hc : va.category = 1) (k : mx_E μ (pc + 1) ls (va :: va :: st) h bc bs P PX) : mx_E μ pc ls (va :: st) h bc bs P PX := by
  intro X C D p l e R s m args below meth c H locs cells slots mc ms lc f0 hI hL hR hS h1 h2 h3 h4 h5
  exact lv_dup hI.1 hI.2.1 hd ((mx_v_cat X va).trans hc) (k X C D p l e R s m args below meth c H locs cells slots mc ms lc f0 hI hL hR hS h1 h2 h3 h4 h5)
theorem ms_pop {va : Value} (hd : decode (mx_b μ) pc = .ok (.pop, 1)) (hc : va.category = 1) (k : mx_E μ (pc + 1) ls st h bc bs P PX) : mx_E μ pc ls (va :: st) h bc bs P PX := by
  intro X C D p l e R s m args below meth c H locs cells slots mc ms lc f0 hI hL hR hS h1 h2 h3 h4 h5
  exact lv_pop hI.1 hI.2.1 hd ((mx_v_cat X va).trans hc) (k X C D p l e R s m args below meth c H locs cells slots mc ms lc f0 hI hL hR hS h1 h2 h3 h4 h5)
theorem ms_dup2 {va vb : Value} (hd : decode (mx_b μ) pc = .ok (.dup2, 1)) (hc : va.category = 1) (hc2 : vb.category = 1) (k : mx_E μ (pc + 1) ls (va :: vb :: va :: vb :: st) h bc bs P PX) : mx_E μ pc ls (va :: vb :: st) h bc bs P PX := by
  intro X C D p l e R s m args below meth c H locs cells slots mc ms lc f0 hI hL hR hS h1 h2 h3 h4 h5
  exact lv_dup2_11 hI.1 hI.2.1 hd ((mx_v_cat X va).trans hc) ((mx_v_cat X vb).trans hc2) (k X C D p l e R s m args below meth c H locs cells slots mc ms lc f0 hI hL hR hS h1 h2 h3 h4 h5)
theorem ms_if_eq {x : Int32} {off : Int} {tgt : Nat} (hd : decode (mx_b μ) pc = .ok (.ifCond .eq off, 3)) (ht : (pc : Int) + off = (tgt : Int)) (kt : x = 0 → mx_E μ tgt ls st h bc bs P PX) (kf : ¬ x = 0 → mx_E μ (pc + 3) ls st h bc bs P PX) : mx_E μ pc ls (.int x :: st) h bc bs P PX := by
  intro X C D p l e R s m args below meth c H locs cells slots mc ms lc f0 hI hL hR hS h1 h2 h3 h4 h5
  exact lv_if_eq hI.1 hI.2.1 hd ht (fun q => (kt q X C D p l e R s m args below meth c H locs cells slots mc ms lc f0 hI hL hR hS h1 h2 h3 h4 h5)) (fun q => (kf q X C D p l e R s m args below meth c H locs cells slots mc ms lc f0 hI hL hR hS h1 h2 h3 h4 h5))
theorem ms_icmp_eq {x y : Int32} {off : Int} {tgt : Nat} (hd : decode (mx_b μ) pc = .ok (.if_icmp .eq off, 3)) (ht : (pc : Int) + off = (tgt : Int)) (kt : x = y → mx_E μ tgt ls st h bc bs P PX) (kf : ¬ x = y → mx_E μ (pc + 3) ls st h bc bs P PX) : mx_E μ pc ls (.int y :: .int x :: st) h bc bs P PX := by
  intro X C D p l e R s m args below meth c H locs cells slots mc ms lc f0 hI hL hR hS h1 h2 h3 h4 h5
  exact lv_icmp_eq hI.1 hI.2.1 hd ht (fun q => (kt q X C D p l e R s m args below meth c H locs cells slots mc ms lc f0 hI hL hR hS h1 h2 h3 h4 h5)) (fun q => (kf q X C D p l e R s m args below meth c H locs cells slots mc ms lc f0 hI hL hR hS h1 h2 h3 h4 h5))
theorem ms_if_ne {x : Int32} {off : Int} {tgt : Nat} (hd : decode (mx_b μ) pc = .ok (.ifCond .ne off, 3)) (ht : (pc : Int) + off = (tgt : Int)) (kt : ¬ x = 0 → mx_E μ tgt ls st h bc bs P PX) (kf : x = 0 → mx_E μ (pc + 3) ls st h bc bs P PX) : mx_E μ pc ls (.int x :: st) h bc bs P PX := by
  intro X C D p l e R s m args below meth c H locs cells slots mc ms lc f0 hI hL hR hS h1 h2 h3 h4 h5
  exact lv_if_ne hI.1 hI.2.1 hd ht (fun q => (kt q X C D p l e R s m args below meth c H locs cells slots mc ms lc f0 hI hL hR hS h1 h2 h3 h4 h5)) (fun q => (kf q X C D p l e R s m args below meth c H locs cells slots mc ms lc f0 hI hL hR hS h1 h2 h3 h4 h5))
theorem ms_icmp_ne {x y : Int32} {off : Int} {tgt : Nat} (hd : decode (mx_b μ) pc = .ok (.if_icmp .ne off, 3)) (ht : (pc : Int) + off = (tgt : Int)) (kt : ¬ x = y → mx_E μ tgt ls st h bc bs P PX) (kf : x = y → mx_E μ (pc + 3) ls st h bc bs P PX) : mx_E μ pc ls (.int y :: .int x :: st) h bc bs P PX := by
  intro X C D p l e R s m args below meth c H locs cells slots mc ms lc f0 hI hL hR hS h1 h2 h3 h4 h5
  exact lv_icmp_ne hI.1 hI.2.1 hd ht (fun q => (kt q X C D p l e R s m args below meth c H locs cells slots mc ms lc f0 hI hL hR hS h1 h2 h3 h4 h5)) (fun q => (kf q X C D p l e R s m args below meth c H locs cells slots mc ms lc f0 hI hL hR hS h1 h2 h3 h4 h5))
theorem ms_if_lt {x : Int32} {off : Int} {tgt : Nat} (hd : decode (mx_b μ) pc = .ok (.ifCond .lt off, 3)) (ht : (pc : Int) + off = (tgt : Int)) (kt : x < 0 → mx_E μ tgt ls st h bc bs P PX) (kf : ¬ x < 0 → mx_E μ (pc + 3) ls st h bc bs P PX) : mx_E μ pc ls (.int x :: st) h bc bs P PX := by
  intro X C D p l e R s m args below meth c H locs cells slots mc ms lc f0 hI hL hR hS h1 h2 h3 h4 h5
  exact lv_if_lt hI.1 hI.2.1 hd ht (fun q => (kt q X C D p l e R s m args below meth c H locs cells slots mc ms lc f0 hI hL hR hS h1 h2 h3 h4 h5)) (fun q => (kf q X C D p l e R s m args below meth c H locs cells slots mc ms lc f0 hI hL hR hS h1 h2 h3 h4 h5))
theorem ms_icmp_lt {x y : Int32} {off : Int} {tgt : Nat} (hd : decode (mx_b μ) pc = .ok (.if_icmp .lt off, 3)) (ht : (pc : Int) + off = (tgt : Int)) (kt : x < y → mx_E μ tgt ls st h bc bs P PX) (kf : ¬ x < y → mx_E μ (pc + 3) ls st h bc bs P PX) : mx_E μ pc ls (.int y :: .int x :: st) h bc bs P PX := by
  intro X C D p l e R s m args below meth c H locs cells slots mc ms lc f0 hI hL hR hS h1 h2 h3 h4 h5
  exact lv_icmp_lt hI.1 hI.2.1 hd ht (fun q => (kt q X C D p l e R s m args below meth c H locs cells slots mc ms lc f0 hI hL hR hS h1 h2 h3 h4 h5)) (fun q => (kf q X C D p l e R s m args below meth c H locs cells slots mc ms lc f0 hI hL hR hS h1 h2 h3 h4 h5))
theorem ms_if_ge {x : Int32} {off : Int} {tgt : Nat} (hd : decode (mx_b μ) pc = .ok (.ifCond .ge off, 3)) (ht : (pc : Int) + off = (tgt : Int)) (kt : 0 ≤ x → mx_E μ tgt ls st h bc bs P PX) (kf : ¬ 0 ≤ x → mx_E μ (pc + 3) ls st h bc bs P PX) : mx_E μ pc ls (.int x :: st) h bc bs P PX := by
  intro X C D p l e R s m args below meth c H locs cells slots mc ms lc f0 hI hL hR hS h1 h2 h3 h4 h5
  exact lv_if_ge hI.1 hI.2.1 hd ht (fun q => (kt q X C D p l e R s m args below meth c H locs cells slots mc ms lc f0 hI hL hR hS h1 h2 h3 h4 h5)) (fun q => (kf q X C D p l e R s m args below meth c H locs cells slots mc ms lc f0 hI hL hR hS h1 h2 h3 h4 h5))
theorem ms_icmp_ge {x y : Int32} {off : Int} {tgt : Nat} (hd : decode (mx_b μ) pc = .ok (.if_icmp .ge off, 3)) (ht : (pc : Int) + off = (tgt : Int)) (kt : y ≤ x → mx_E μ tgt ls st h bc bs P PX) (kf : ¬ y ≤ x → mx_E μ (pc + 3) ls st h bc bs P PX) : mx_E μ pc ls (.int y :: .int x :: st) h bc bs P PX := by
  intro X C D p l e R s m args below meth c H locs cells slots mc ms lc f0 hI hL hR hS h1 h2 h3 h4 h5
  exact lv_icmp_ge hI.1 hI.2.1 hd ht (fun q => (kt q X C D p l e R s m args below meth c H locs cells slots mc ms lc f0 hI hL hR hS h1 h2 h3 h4 h5)) (fun q => (kf q X C D p l e R s m args below meth c H locs cells slots mc ms lc f0 hI hL hR hS h1 h2 h3 h4 h5))
theorem ms_if_gt {x : Int32} {off : Int} {tgt : Nat} (hd : decode (mx_b μ) pc = .ok (.ifCond .gt off, 3)) (ht : (pc : Int) + off = (tgt : Int)) (kt : 0 < x → mx_E μ tgt ls st h bc bs P PX) (kf : ¬ 0 < x → mx_E μ (pc + 3) ls st h bc bs P PX) : mx_E μ pc ls (.int x :: st) h bc bs P PX := by
  intro X C D p l e R s m args below meth c H locs cells slots mc ms lc f0 hI hL hR hS h1 h2 h3 h4 h5
  exact lv_if_gt hI.1 hI.2.1 hd ht (fun q => (kt q X C D p l e R s m args below meth c H locs cells slots mc ms lc f0 hI hL hR hS h1 h2 h3 h4 h5)) (fun q => (kf q X C D p l e R s m args below meth c H locs cells slots mc ms lc f0 hI hL hR hS h1 h2 h3 h4 h5))
theorem ms_icmp_gt {x y : Int32} {off : Int} {tgt : Nat} (hd : decode (mx_b μ) pc = .ok (.if_icmp .gt off, 3)) (ht : (pc : Int) + off = (tgt : Int)) (kt : y < x → mx_E μ tgt ls st h bc bs P PX) (kf : ¬ y < x → mx_E μ (pc + 3) ls st h bc bs P PX) : mx_E μ pc ls (.int y :: .int x :: st) h bc bs P PX := by
  intro X C D p l e R s m args below meth c H locs cells slots mc ms lc f0 hI hL hR hS h1 h2 h3 h4 h5
  exact lv_icmp_gt hI.1 hI.2.1 hd ht (fun q => (kt q X C D p l e R s m args below meth c H locs cells slots mc ms lc f0 hI hL hR hS h1 h2 h3 h4 h5)) (fun q => (kf q X C D p l e R s m args below meth c H locs cells slots mc ms lc f0 hI hL hR hS h1 h2 h3 h4 h5))
theorem ms_if_le {x : Int32} {off : Int} {tgt : Nat} (hd : decode (mx_b μ) pc = .ok (.ifCond .le off, 3)) (ht : (pc : Int) + off = (tgt : Int)) (kt : x ≤ 0 → mx_E μ tgt ls st h bc bs P PX) (kf : ¬ x ≤ 0 → mx_E μ (pc + 3) ls st h bc bs P PX) : mx_E μ pc ls (.int x :: st) h bc bs P PX := by
  intro X C D p l e R s m args below meth c H locs cells slots mc ms lc f0 hI hL hR hS h1 h2 h3 h4 h5
  exact lv_if_le hI.1 hI.2.1 hd ht (fun q => (kt q X C D p l e R s m args below meth c H locs cells slots mc ms lc f0 hI hL hR hS h1 h2 h3 h4 h5)) (fun q => (kf q X C D p l e R s m args below meth c H locs cells slots mc ms lc f0 hI hL hR hS h1 h2 h3 h4 h5))
theorem ms_icmp_le {x y : Int32} {off : Int} {tgt : Nat} (hd : decode (mx_b μ) pc = .ok (.if_icmp .le off, 3)) (ht : (pc : Int) + off = (tgt : Int)) (kt : x ≤ y → mx_E μ tgt ls st h bc bs P PX) (kf : ¬ x ≤ y → mx_E μ (pc + 3) ls st h bc bs P PX) : mx_E μ pc ls (.int y :: .int x :: st) h bc bs P PX := by
  intro X C D p l e R s m args below meth c H locs cells slots mc ms lc f0 hI hL hR hS h1 h2 h3 h4 h5
  exact lv_icmp_le hI.1 hI.2.1 hd ht (fun q => (kt q X C D p l e R s m args below meth c H locs cells slots mc ms lc f0 hI hL hR hS h1 h2 h3 h4 h5)) (fun q => (kf q X C D p l e R s m args below meth c H locs cells slots mc ms lc f0 hI hL hR hS h1 h2 h3 h4 h5))
theorem ms_goto {off : Int} {tgt : Nat} (hd : decode (mx_b μ) pc = .ok (.goto off, 3)) (ht : (pc : Int) + off = (tgt : Int)) (k : mx_E μ tgt ls st h bc bs P PX) : mx_E μ pc ls st h bc bs P PX := by
  intro X C D p l e R s m args below meth c H locs cells slots mc ms lc f0 hI hL hR hS h1 h2 h3 h4 h5
  exact lv_goto hI.1 hI.2.1 hd ht (k X C D p l e R s m args below meth c H locs cells slots mc ms lc f0 hI hL hR hS h1 h2 h3 h4 h5)
theorem ms_tabOut {dflt lo hi : Int} {offs : Array Int} {len : Nat} {x : Int32} {tgt : Nat} (hd : decode (mx_b μ) pc = .ok (.tableswitch dflt lo hi offs, len)) (hx : x.toInt < lo ∨ hi < x.toInt) (ht : (pc : Int) + dflt = (tgt : Int)) (k : mx_E μ tgt ls st h bc bs P PX) : mx_E μ pc ls (.int x :: st) h bc bs P PX := by
  intro X C D p l e R s m args below meth c H locs cells slots mc ms lc f0 hI hL hR hS h1 h2 h3 h4 h5
  exact lv_tableOut hI.1 hI.2.1 hd hx ht (k X C D p l e R s m args below meth c H locs cells slots mc ms lc f0 hI hL hR hS h1 h2 h3 h4 h5)
theorem ms_tabIn {dflt lo hi : Int} {offs : Array Int} {len : Nat} {x : Int32} {off : Int} {tgt : Nat} (hd : decode (mx_b μ) pc = .ok (.tableswitch dflt lo hi offs, len)) (hx1 : ¬ x.toInt < lo) (hx2 : ¬ hi < x.toInt) (ho : offs[(x.toInt - lo).toNat]? = some off) (ht : (pc : Int) + off = (tgt : Int)) (k : mx_E μ tgt ls st h bc bs P PX) : mx_E μ pc ls (.int x :: st) h bc bs P PX := by
  intro X C D p l e R s m args below meth c H locs cells slots mc ms lc f0 hI hL hR hS h1 h2 h3 h4 h5
  exact lv_tableIn hI.1 hI.2.1 hd hx1 hx2 ho ht (k X C D p l e R s m args below meth c H locs cells slots mc ms lc f0 hI hL hR hS h1 h2 h3 h4 h5)
/-- the locals as the kit lists them -/
def mx_al (X : mx_X) (ls : List (Option Value)) : List (Nat × Value) := ls.zipIdx.filterMap (fun q => q.1.map (fun v => (q.2, mx_v X v)))
theorem mx_al_mem {X : mx_X} {ls : List (Option Value)} {i : Nat} {v : Value} (hv : ls[i]? = some (some v)) : (i, mx_v X v) ∈ mx_al X ls :=
  List.mem_filterMap.mpr ⟨(some v, i), List.mem_zipIdx_iff_getElem?.mpr hv, rfl⟩
theorem mx_L.has {X : mx_X} {nL : Nat} {lc : Array Slot} {ls : List (Option Value)} (h : mx_L X nL lc ls) : lv_has lc nL (mx_al X ls) := by
  refine ⟨h.1, h.2.1, fun q hq => ?_⟩
  obtain ⟨⟨o, i⟩, h1, h2⟩ := List.mem_filterMap.mp hq
  cases o with
  | none => cases h2
  | some v =>
    cases h2
    exact h.2.2 i v (List.mem_zipIdx_iff_getElem?.mp h1)
/-- no long ends at i -/
def mx_ok1 (ls : List (Option Value)) (i : Nat) : Bool := match i with
  | 0 => true
  | i + 1 => match ls[i]? with
    | some (some (.long _)) => false
    | some (some (.double _)) => false
    | _ => true
theorem mx_ok1_cat {ls : List (Option Value)} {i : Nat} {v : Value} (h : mx_ok1 ls (i + 1) = true) (hv : ls[i]? = some (some v)) : v.category = 1 := by
  simp only [mx_ok1, hv] at h
  cases v <;> first | rfl | cases h
theorem mx_L.back {X : mx_X} {nL i : Nat} {lc lc2 : Array Slot} {ls : List (Option Value)} {v : Value} (h : mx_L X nL lc ls) (hok : mx_ok1 ls i = true) (h2 : lv_has lc2 nL ((i, mx_v X v) :: (mx_al X ls).filter (fun q => !(q.1 == i) && !(q.1 + 1 == i && q.2.category == 2)))) : mx_L X nL lc2 (ls.set i (some v)) := by
  refine ⟨h2.1, h2.2.1, fun j w hj => ?_⟩
  by_cases hji : j = i
  · subst hji
    by_cases hlt : j < ls.length
    · rw [List.getElem?_set_self hlt] at hj
      cases hj
      exact h2.2.2 _ List.mem_cons_self
    · rw [List.getElem?_eq_none (by rw [List.length_set]; omega)] at hj
      cases hj
  · rw [List.getElem?_set_ne (Ne.symm hji)] at hj
    refine h2.2.2 (j, mx_v X w) (List.mem_cons_of_mem _ (List.mem_filter.mpr ⟨mx_al_mem hj, ?_⟩))
    by_cases hc : j + 1 = i
    · subst hc
      have := mx_ok1_cat hok hj
      simp [mx_v_cat, this]
    · simp [hji, hc]
theorem mx_L.back2 {X : mx_X} {nL i : Nat} {lc lc2 : Array Slot} {ls : List (Option Value)} {v : Value} (h : mx_L X nL lc ls) (hok : mx_ok1 ls i = true) (h2 : lv_has lc2 nL ((i, mx_v X v) :: (mx_al X ls).filter (fun q => !(q.1 == i) && (!(q.1 == i + 1) && !(q.1 + 1 == i && q.2.category == 2))))) : mx_L X nL lc2 ((ls.set i (some v)).set (i + 1) none) := by
  refine ⟨h2.1, h2.2.1, fun j w hj => ?_⟩
  by_cases hj1 : j = i + 1
  · subst hj1
    by_cases hlt : i + 1 < ls.length
    · rw [List.getElem?_set_self (by rw [List.length_set]; exact hlt)] at hj
      cases hj
    · rw [List.getElem?_eq_none (by rw [List.length_set, List.length_set]; omega)] at hj
      cases hj
  · rw [List.getElem?_set_ne (Ne.symm hj1)] at hj
    by_cases hji : j = i
    · subst hji
      by_cases hlt : j < ls.length
      · rw [List.getElem?_set_self hlt] at hj
        cases hj
        exact h2.2.2 _ List.mem_cons_self
      · rw [List.getElem?_eq_none (by rw [List.length_set]; omega)] at hj
        cases hj
    · rw [List.getElem?_set_ne (Ne.symm hji)] at hj
      refine h2.2.2 (j, mx_v X w) (List.mem_cons_of_mem _ (List.mem_filter.mpr ⟨mx_al_mem hj, ?_⟩))
      by_cases hc : j + 1 = i
      · subst hc
        have := mx_ok1_cat hok hj
        simp [mx_v_cat, this, hj1]
      · simp [hji, hc, hj1]
theorem ms_istore_n {k0 : Fin 4} {x : Int32} (hd : decode (mx_b μ) pc = .ok (.istore_n k0, 1)) (hn : (k0 : Nat) < mx_nl μ) (hok : mx_ok1 ls (k0 : Nat) = true) (k : mx_E μ (pc + 1) (ls.set (k0 : Nat) (some (Value.int x))) st h bc bs P PX) : mx_E μ pc ls (Value.int x :: st) h bc bs P PX := by
  intro X C D p l e R s m args below meth c H locs cells slots mc ms lc f0 hI hL hR hS h1 h2 h3 h4 h5
  exact lv_istore_n hI.1 hI.2.1 hd rfl hL.has hn rfl (fun lc2 hl2 => (k X C D p l e R s m args below meth c H locs cells slots mc ms lc2 f0 hI (hL.back hok hl2) hR hS h1 h2 h3 h4 h5))
theorem ms_istore {i : Nat} {x : Int32} (hd : decode (mx_b μ) pc = .ok (.istore i, 2)) (hn : i < mx_nl μ) (hok : mx_ok1 ls i = true) (k : mx_E μ (pc + 2) (ls.set i (some (Value.int x))) st h bc bs P PX) : mx_E μ pc ls (Value.int x :: st) h bc bs P PX := by
  intro X C D p l e R s m args below meth c H locs cells slots mc ms lc f0 hI hL hR hS h1 h2 h3 h4 h5
  exact lv_istore hI.1 hI.2.1 hd hL.has hn rfl (fun lc2 hl2 => (k X C D p l e R s m args below meth c H locs cells slots mc ms lc2 f0 hI (hL.back hok hl2) hR hS h1 h2 h3 h4 h5))
theorem ms_astore_n {k0 : Fin 4} {x : Nat} (hd : decode (mx_b μ) pc = .ok (.astore_n k0, 1)) (hn : (k0 : Nat) < mx_nl μ) (hok : mx_ok1 ls (k0 : Nat) = true) (k : mx_E μ (pc + 1) (ls.set (k0 : Nat) (some (Value.ref x))) st h bc bs P PX) : mx_E μ pc ls (Value.ref x :: st) h bc bs P PX := by
  intro X C D p l e R s m args below meth c H locs cells slots mc ms lc f0 hI hL hR hS h1 h2 h3 h4 h5
  exact lv_astore_n hI.1 hI.2.1 hd rfl hL.has hn rfl (fun lc2 hl2 => (k X C D p l e R s m args below meth c H locs cells slots mc ms lc2 f0 hI (hL.back hok hl2) hR hS h1 h2 h3 h4 h5))
theorem ms_astore {i : Nat} {x : Nat} (hd : decode (mx_b μ) pc = .ok (.astore i, 2)) (hn : i < mx_nl μ) (hok : mx_ok1 ls i = true) (k : mx_E μ (pc + 2) (ls.set i (some (Value.ref x))) st h bc bs P PX) : mx_E μ pc ls (Value.ref x :: st) h bc bs P PX := by
  intro X C D p l e R s m args below meth c H locs cells slots mc ms lc f0 hI hL hR hS h1 h2 h3 h4 h5
  exact lv_astore hI.1 hI.2.1 hd hL.has hn rfl (fun lc2 hl2 => (k X C D p l e R s m args below meth c H locs cells slots mc ms lc2 f0 hI (hL.back hok hl2) hR hS h1 h2 h3 h4 h5))
theorem ms_lstore_n {k0 : Fin 4} {x : Int64} (hd : decode (mx_b μ) pc = .ok (.lstore_n k0, 1)) (hn : (k0 : Nat) + 1 < mx_nl μ) (hok : mx_ok1 ls (k0 : Nat) = true) (k : mx_E μ (pc + 1) ((ls.set (k0 : Nat) (some (Value.long x))).set ((k0 : Nat) + 1) none) st h bc bs P PX) : mx_E μ pc ls (Value.long x :: st) h bc bs P PX := by
  intro X C D p l e R s m args below meth c H locs cells slots mc ms lc f0 hI hL hR hS h1 h2 h3 h4 h5
  exact lv_lstore_n hI.1 hI.2.1 hd rfl hL.has hn rfl (fun lc2 hl2 => (k X C D p l e R s m args below meth c H locs cells slots mc ms lc2 f0 hI (hL.back2 hok hl2) hR hS h1 h2 h3 h4 h5))
theorem ms_iinc {i : Nat} {n : Int} {x : Int32} (hd : decode (mx_b μ) pc = .ok (.iinc i n, 3)) (hl : ls[i]? = some (some (.int x))) (hn : i < mx_nl μ) (hok : mx_ok1 ls i = true) (k : mx_E μ (pc + 3) (ls.set i (some (.int (x + Int32.ofInt n)))) st h bc bs P PX) : mx_E μ pc ls st h bc bs P PX := by
  intro X C D p l e R s m args below meth c H locs cells slots mc ms lc f0 hI hL hR hS h1 h2 h3 h4 h5
  obtain ⟨k9, hk9⟩ := List.getElem?_of_mem (mx_al_mem (X := X) hl)
  exact lv_iinc hI.1 hI.2.1 hd hL.has hk9 rfl hn rfl (fun lc2 hl2 => (k X C D p l e R s m args below meth c H locs cells slots mc ms lc2 f0 hI (hL.back (v := .int (x + Int32.ofInt n)) hok hl2) hR hS h1 h2 h3 h4 h5))
end MXR
end
section
section MXH
variable {μ : mx_M} {pc : Nat} {ls : List (Option Value)} {st : List Value} {bc bs : Nat} {P : Option Value → mx_H → Prop} {PX : String → mx_H → Prop}
variable {f : Bool} {sh : List (Nat × Nat)} {M : Nat → Nat → Int32} {L : Nat → Nat → Int64} {Rf : Nat → Nat → Option Nat}
theorem mx_cell_congr {X : mx_X} {C : mx_Cs} {h h2 : mx_H} {k : Nat} {q : Nat × Nat} (h1 : h2.2.2.1 k = h.2.2.1 k) (h3 : h2.2.2.2.1 k = h.2.2.2.1 k) (h4 : h2.2.2.2.2 k = h.2.2.2.2 k) : mx_cell X C h2 k q = mx_cell X C h k q := by
  obtain ⟨a, b⟩ := q
  match a with
  | 0 => simp only [mx_cell, h1]
  | 1 => simp only [mx_cell, h3]
  | 2 => simp only [mx_cell, h4]
  | c + 3 =>
    simp only [mx_cell]
    congr 2
    refine List.map_congr_left fun i _ => ?_
    simp only [mx_fv, h1, h4]
theorem mx_w_set {X : mx_X} {C : mx_Cs} {h h2 : mx_H} {a : Nat} {q : Nat × Nat} (hs : h2.2.1 = h.2.1) (ha : h.2.1[a]? = some q) (h1 : ∀ k, k ≠ a → h2.2.2.1 k = h.2.2.1 k) (h3 : ∀ k, k ≠ a → h2.2.2.2.1 k = h.2.2.2.1 k) (h4 : ∀ k, k ≠ a → h2.2.2.2.2 k = h.2.2.2.2 k) :
    (mx_w X C h).set a (X.1 + a, mx_cell X C h2 a q) = mx_w X C h2 := by
  refine List.ext_getElem? fun i => ?_
  have hla : a < h.2.1.length := (List.getElem?_eq_some_iff.mp ha).1
  by_cases hi : i = a
  · subst hi
    rw [List.getElem?_set_self (by simpa [mx_w] using hla), mx_w_at (h := h2) (by rw [hs]; exact ha)]
  · rw [List.getElem?_set_ne (Ne.symm hi)]
    simp only [mx_w, List.getElem?_mapIdx, hs]
    cases hq : h.2.1[i]? with
    | none => rfl
    | some z =>
      simp only [Option.map_some]
      rw [mx_cell_congr (h1 i hi) (h3 i hi) (h4 i hi)]
/-- the bytes of a class's own words are among the tables' -/
def mx_clOK (ci : Nat) (r : vw_C) : Prop := vwCl[ci]? = some r ∧ (∀ w ∈ u_ws r.1 r.2.1 r.2.2, w ∈ mx_T) ∧ (∀ k, k < r.2.2 → parseFieldDescriptor (r.2.1 k).2.2.1 = some (mx_ty ci k)) ∧ (∀ a, a < r.2.2 → ∀ b, b < r.2.2 → a ≠ b → (r.2.1 a).2.1 ≠ (r.2.1 b).2.1)
/-- a field's link: of class ci, the k-th -/
def mx_flOK (μ : mx_M) (idx ci k : Nat) (r : vw_C) : Prop := mx_clOK ci r ∧ k < r.2.2 ∧ Cond.fieldLink (mx_y μ).cls idx (r.2.1 k).1 (r.2.1 k).2.1 (r.2.1 k).2.2.1 ∈ mx_T
theorem mx_fv_get {X : mx_X} {c N k a : Nat} {h : mx_H} (hk : k < N) : ((List.range N).map (mx_fv X c h a))[k]? = some (mx_fv X c h a k) := by
  simp [hk]
theorem ms_getI {idx ci k a : Nat} {r : vw_C} (hd : decode (mx_b μ) pc = .ok (.getfield idx, 3)) (hf : mx_flOK μ idx ci k r) (hs : sh[a]? = some (ci + 3, r.2.2)) (ht : mx_isI (mx_ty ci k) = true)
    (kk : mx_E μ (pc + 3) ls (.int (M a k) :: st) (f, sh, M, L, Rf) bc bs P PX) (ha : a < 1000 := by decide) : mx_E μ pc ls (.ref a :: st) (f, sh, M, L, Rf) bc bs P PX := by
  intro X C D p l e R s m args below meth c H locs cells slots mc ms lc f0 hI hL hR hS h1 h2 h3 h4 h5
  obtain ⟨C1, T1, N1⟩ := r
  obtain ⟨⟨hc, hw, -, -⟩, hk, hlk⟩ := hf
  have hv : mx_v X (.ref a) = .ref (X.1 + a) := by simp [mx_v, mx_ad, ha]
  rw [List.map_cons, hv]
  refine va_get hI.1 hI.2.1 hI.2.2.2.2.1 hw hI.2.2.2.1 hI.2.2.2.2.2.2.2.2.2.2.1.1 hR.1 a (mx_w_at (C := C) (h := (f, sh, M, L, Rf)) hs) hc k hk (hI.2.2.2.2.1 _ hlk) (fun _ z => z) (mx_fv_get hk) hd ?_
  have e1 : mx_fv X ci (f, sh, M, L, Rf) a k = .int (M a k) := by simp only [mx_fv, ht, if_true]
  rw [e1]
  exact kk X C D p l e R s m args below meth c H locs cells slots mc ms lc f0 hI hL hR hS h1 h2 h3 h4 h5
theorem ms_getR {idx ci k a b : Nat} {r : vw_C} (hd : decode (mx_b μ) pc = .ok (.getfield idx, 3)) (hf : mx_flOK μ idx ci k r) (hs : sh[a]? = some (ci + 3, r.2.2)) (ht : mx_isI (mx_ty ci k) = false) (hb : Rf a k = some b)
    (kk : mx_E μ (pc + 3) ls (.ref b :: st) (f, sh, M, L, Rf) bc bs P PX) (ha : a < 1000 := by decide) : mx_E μ pc ls (.ref a :: st) (f, sh, M, L, Rf) bc bs P PX := by
  intro X C D p l e R s m args below meth c H locs cells slots mc ms lc f0 hI hL hR hS h1 h2 h3 h4 h5
  obtain ⟨C1, T1, N1⟩ := r
  obtain ⟨⟨hc, hw, -, -⟩, hk, hlk⟩ := hf
  have hv : mx_v X (.ref a) = .ref (X.1 + a) := by simp [mx_v, mx_ad, ha]
  rw [List.map_cons, hv]
  refine va_get hI.1 hI.2.1 hI.2.2.2.2.1 hw hI.2.2.2.1 hI.2.2.2.2.2.2.2.2.2.2.1.1 hR.1 a (mx_w_at (C := C) (h := (f, sh, M, L, Rf)) hs) hc k hk (hI.2.2.2.2.1 _ hlk) (fun _ z => z) (mx_fv_get hk) hd ?_
  have e1 : mx_fv X ci (f, sh, M, L, Rf) a k = .ref (mx_ad X b) := by simp only [mx_fv, ht, hb]; rfl
  rw [e1]
  exact kk X C D p l e R s m args below meth c H locs cells slots mc ms lc f0 hI hL hR hS h1 h2 h3 h4 h5
theorem mx_range_set {α : Type} (g g2 : Nat → α) (N k : Nat) (h1 : ∀ i, i ≠ k → g2 i = g i) : ((List.range N).map g).set k (g2 k) = (List.range N).map g2 := by
  refine List.ext_getElem? fun i => ?_
  by_cases hi : i = k
  · subst hi
    by_cases hl : i < N
    · rw [List.getElem?_set_self (by simpa using hl)]
      simp [hl]
    · rw [List.getElem?_eq_none (by simp; omega), List.getElem?_eq_none (by simp; omega)]
  · rw [List.getElem?_set_ne (Ne.symm hi)]
    by_cases hl : i < N
    · simp [hl, h1 i hi]
    · rw [List.getElem?_eq_none (by simp; omega), List.getElem?_eq_none (by simp; omega)]
/-- behind a store: the heap is as large as before -/
theorem mx_W_st {p : Program} {l : Launch} {e : Env} {R : Room} {s : State} {m : MethodId} {args : Array Value} {below : List Frame} {meth : Method} {c : Code} {H1 : Heap} {locs : List Loc} {cells slots : Nat} {Q : State → Prop} {g : JFrame}
    (k : H1.size ≤ s.heap.size + cells → W p l e R s m args below meth c H1 locs cells slots Q g) : W p l e R s m args below meth c H1 locs cells slots Q g :=
  fun T hT X9 => k (by rw [← hT]; exact X9.heapSize) T hT X9
theorem mx_S_go {A : Nat → Prop} {H0 H H1 : Heap} {locs locs1 : List Loc} (h : va_S A H0 H locs) (h2 : va_S A H H1 locs1) : va_S A H0 H1 locs1 :=
  ⟨Nat.le_trans h.1 h2.1, fun q hq hA => (h2.2.1 q (Nat.lt_of_lt_of_le hq h.1) hA).trans (h.2.1 q hq hA), h2.2.2⟩
theorem mx_S_rf {A : Nat → Prop} {H0 H : Heap} {locs : List Loc} (h : va_S A H0 H locs) : va_S A H H locs := ⟨Nat.le_refl _, fun _ _ _ => rfl, h.2.2⟩
theorem mx_R_st {X : mx_X} {C : mx_Cs} {D : va_G} {h h2 : mx_H} {H H1 : Heap} {n : Nat} (hR : mx_R X C D h H) (hP : va_P D vwCl (mx_w X C h2) H1) (e1 : h2.1 = h.1) (e2 : h2.2.1 = h.2.1) (h5 : h.1 = true → n ≤ H.size) (hz : H.size ≤ H1.size) (hu : H1.size ≤ n) : mx_R X C D h2 H1 ∧ (h2.1 = true → n ≤ H1.size) := by
  refine ⟨⟨hP, fun q => ?_, Nat.le_trans hR.2.2 hz⟩, fun q => ?_⟩
  · rw [e1] at q
    have a1 := h5 q
    have a2 := hR.2.1 q
    rw [e2]
    omega
  · rw [e1] at q
    have a1 := h5 q
    omega
/-- the tail of every store rule -/
theorem mx_st_tail {X : mx_X} {C : mx_Cs} {D : va_G} {p : Program} {l : Launch} {e : Env} {R : Room} {s : State} {m : MethodId} {args : Array Value} {below : List Frame} {meth : Method} {c : Code} {H H1 : Heap} {locs locs1 : List Loc} {cells slots mc ms : Nat} {lc : Array Slot} {f0 : Bool} {h h2 : mx_H} {pc2 : Nat}
    (k : mx_E μ pc2 ls st h2 bc bs P PX) (hI : mx_I μ X C D p l R s m args meth c) (hL : mx_L X (mx_nl μ) lc ls) (hR : mx_R X C D h H) (hS : va_S (mx_A X) s.heap H locs) (h1 : cells + bc = mc) (h2' : slots + bs = ms) (h3 : mc ≤ R.cells) (h4 : ms ≤ R.slots) (h5 : h.1 = true → f0 = true ∧ s.heap.size + cells ≤ H.size)
    (hP : va_P D vwCl (mx_w X C h2) H1) (hS1 : va_S (mx_A X) H H1 locs1) (e1 : h2.1 = h.1) (e2 : h2.2.1 = h.2.1) :
    W p l e R s m args below meth c H1 locs1 cells slots (vx_MQ below (mx_Qc X C D f0 mc P) (mx_XC X C D PX) args s mc ms (mx_A X)) (F0 m pc2 lc (st.map (mx_v X))) := by
  refine mx_W_st fun hu => ?_
  obtain ⟨a1, a2⟩ := mx_R_st hR hP e1 e2 (fun q => (h5 q).2) hS1.1 hu
  exact k X C D p l e R s m args below meth c H1 locs1 cells slots mc ms lc f0 hI hL a1 (mx_S_go hS hS1) h1 h2' h3 h4 (fun q => ⟨(h5 (e1 ▸ q)).1, a2 q⟩)
theorem ms_putI {idx ci k a : Nat} {r : vw_C} {x : Int32} (hd : decode (mx_b μ) pc = .ok (.putfield idx, 3)) (hf : mx_flOK μ idx ci k r) (hs : sh[a]? = some (ci + 3, r.2.2)) (ht : mx_ty ci k = .int) (hfin : (r.2.1 k).2.2.2 = false)
    (kk : mx_E μ (pc + 3) ls st (f, sh, va_up M a (va_up (M a) k x), L, Rf) bc bs P PX) (ha : a < 1000 := by decide) : mx_E μ pc ls (.int x :: .ref a :: st) (f, sh, M, L, Rf) bc bs P PX := by
  intro X C D p l e R s m args below meth c H locs cells slots mc ms lc f0 hI hL hR hS h1 h2 h3 h4 h5
  obtain ⟨C1, T1, N1⟩ := r
  obtain ⟨⟨hc, hw, hty, hnm⟩, hk, hlk⟩ := hf
  have hv : mx_v X (.ref a) = .ref (X.1 + a) := by simp [mx_v, mx_ad, ha]
  rw [List.map_cons, List.map_cons, hv]
  refine va_put (H0 := H) hI.1 hI.2.1 hI.2.2.2.2.1 hw (mx_ty ci) hty hnm hI.2.2.2.1 hI.2.2.2.2.2.2.2.2.2.2.1.1 hR.1 (mx_w_D X C _) (mx_S_rf hS) a (mx_w_at (C := C) (h := (f, sh, M, L, Rf)) hs) hc k hk (hI.2.2.2.2.1 _ hlk) (fun _ z => z) hfin (ty := .int) (v := .int x) (by rw [hty k hk, ht]) rfl rfl (by simpa using hk) hd (fun H1 locs1 q1 _ q3 => ?_)
  refine mx_st_tail kk hI hL hR hS h1 h2 h3 h4 h5 ?_ q3 rfl rfl
  have e0 := mx_w_set (X := X) (C := C) (h := (f, sh, M, L, Rf)) (h2 := (f, sh, va_up M a (va_up (M a) k x), L, Rf)) rfl hs (fun j hj => by first | rfl | (show va_up M a _ j = M j; simp [va_up, hj])) (fun _ _ => rfl) (fun j hj => by first | rfl | (show va_up Rf a _ j = Rf j; simp [va_up, hj]))
  have e2 : mx_fv X ci (f, sh, va_up M a (va_up (M a) k x), L, Rf) a k = .int x := by simp [mx_fv, ht, mx_isI, va_up, va_rf]
  have e1 : mx_cell X C (f, sh, va_up M a (va_up (M a) k x), L, Rf) a (ci + 3, N1) = .inr (ci, ((List.range N1).map (mx_fv X ci (f, sh, M, L, Rf) a)).set k (.int x)) := by
    rw [← e2, mx_range_set _ _ _ _ (fun i hi => ?_)]
    · rfl
    · simp [mx_fv, va_up, hi]
  rw [← e0, e1]
  exact q1
theorem ms_putIF {idx ci k a : Nat} {r : vw_C} {x : Int32} (hd : decode (mx_b μ) pc = .ok (.putfield idx, 3)) (hf : mx_flOK μ idx ci k r) (hs : sh[a]? = some (ci + 3, r.2.2)) (ht : mx_ty ci k = .int) (hfin : (r.2.1 k).2.2.2 = true) (hin : (mx_y μ).name = "<init>") (hdecl : (r.2.1 k).1 = (mx_y μ).cls)
    (kk : mx_E μ (pc + 3) ls st (f, sh, va_up M a (va_up (M a) k x), L, Rf) bc bs P PX) (ha : a < 1000 := by decide) : mx_E μ pc ls (.int x :: .ref a :: st) (f, sh, M, L, Rf) bc bs P PX := by
  intro X C D p l e R s m args below meth c H locs cells slots mc ms lc f0 hI hL hR hS h1 h2 h3 h4 h5
  obtain ⟨C1, T1, N1⟩ := r
  obtain ⟨⟨hc, hw, hty, hnm⟩, hk, hlk⟩ := hf
  have hv : mx_v X (.ref a) = .ref (X.1 + a) := by simp [mx_v, mx_ad, ha]
  rw [List.map_cons, List.map_cons, hv]
  refine va_putF (H0 := H) hI.1 hI.2.1 hI.2.2.2.2.1 hw (mx_ty ci) hty hnm hI.2.2.2.1 hI.2.2.2.2.2.2.2.2.2.2.1.1 hR.1 (mx_w_D X C _) (mx_S_rf hS) a (mx_w_at (C := C) (h := (f, sh, M, L, Rf)) hs) hc k hk (hI.2.2.2.2.1 _ hlk) (fun _ z => z) hfin (hI.2.2.2.2.2.2.2.1.trans hin) hdecl (ty := .int) (v := .int x) (by rw [hty k hk, ht]) rfl rfl (by simpa using hk) hd (fun H1 locs1 q1 _ q3 => ?_)
  refine mx_st_tail kk hI hL hR hS h1 h2 h3 h4 h5 ?_ q3 rfl rfl
  have e0 := mx_w_set (X := X) (C := C) (h := (f, sh, M, L, Rf)) (h2 := (f, sh, va_up M a (va_up (M a) k x), L, Rf)) rfl hs (fun j hj => by first | rfl | (show va_up M a _ j = M j; simp [va_up, hj])) (fun _ _ => rfl) (fun j hj => by first | rfl | (show va_up Rf a _ j = Rf j; simp [va_up, hj]))
  have e2 : mx_fv X ci (f, sh, va_up M a (va_up (M a) k x), L, Rf) a k = .int x := by simp [mx_fv, ht, mx_isI, va_up, va_rf]
  have e1 : mx_cell X C (f, sh, va_up M a (va_up (M a) k x), L, Rf) a (ci + 3, N1) = .inr (ci, ((List.range N1).map (mx_fv X ci (f, sh, M, L, Rf) a)).set k (.int x)) := by
    rw [← e2, mx_range_set _ _ _ _ (fun i hi => ?_)]
    · rfl
    · simp [mx_fv, va_up, hi]
  rw [← e0, e1]
  exact q1
theorem ms_putZ {idx ci k a : Nat} {r : vw_C} {x : Int32} (hz : x = 0 ∨ x = 1) (hd : decode (mx_b μ) pc = .ok (.putfield idx, 3)) (hf : mx_flOK μ idx ci k r) (hs : sh[a]? = some (ci + 3, r.2.2)) (ht : mx_ty ci k = .boolean) (hfin : (r.2.1 k).2.2.2 = false)
    (kk : mx_E μ (pc + 3) ls st (f, sh, va_up M a (va_up (M a) k x), L, Rf) bc bs P PX) (ha : a < 1000 := by decide) : mx_E μ pc ls (.int x :: .ref a :: st) (f, sh, M, L, Rf) bc bs P PX := by
  intro X C D p l e R s m args below meth c H locs cells slots mc ms lc f0 hI hL hR hS h1 h2 h3 h4 h5
  obtain ⟨C1, T1, N1⟩ := r
  obtain ⟨⟨hc, hw, hty, hnm⟩, hk, hlk⟩ := hf
  have hv : mx_v X (.ref a) = .ref (X.1 + a) := by simp [mx_v, mx_ad, ha]
  rw [List.map_cons, List.map_cons, hv]
  refine va_put (H0 := H) hI.1 hI.2.1 hI.2.2.2.2.1 hw (mx_ty ci) hty hnm hI.2.2.2.1 hI.2.2.2.2.2.2.2.2.2.2.1.1 hR.1 (mx_w_D X C _) (mx_S_rf hS) a (mx_w_at (C := C) (h := (f, sh, M, L, Rf)) hs) hc k hk (hI.2.2.2.2.1 _ hlk) (fun _ z => z) hfin (ty := .boolean) (v := .int x) (by rw [hty k hk, ht]) (by rcases hz with rfl | rfl <;> rfl) (by rcases hz with rfl | rfl <;> rfl) (by simpa using hk) hd (fun H1 locs1 q1 _ q3 => ?_)
  refine mx_st_tail kk hI hL hR hS h1 h2 h3 h4 h5 ?_ q3 rfl rfl
  have e0 := mx_w_set (X := X) (C := C) (h := (f, sh, M, L, Rf)) (h2 := (f, sh, va_up M a (va_up (M a) k x), L, Rf)) rfl hs (fun j hj => by first | rfl | (show va_up M a _ j = M j; simp [va_up, hj])) (fun _ _ => rfl) (fun j hj => by first | rfl | (show va_up Rf a _ j = Rf j; simp [va_up, hj]))
  have e2 : mx_fv X ci (f, sh, va_up M a (va_up (M a) k x), L, Rf) a k = .int x := by simp [mx_fv, ht, mx_isI, va_up, va_rf]
  have e1 : mx_cell X C (f, sh, va_up M a (va_up (M a) k x), L, Rf) a (ci + 3, N1) = .inr (ci, ((List.range N1).map (mx_fv X ci (f, sh, M, L, Rf) a)).set k (.int x)) := by
    rw [← e2, mx_range_set _ _ _ _ (fun i hi => ?_)]
    · rfl
    · simp [mx_fv, va_up, hi]
  rw [← e0, e1]
  exact q1
theorem ms_putRo {idx ci k a : Nat} {r : vw_C} {b : Nat} {cn : String} (hd : decode (mx_b μ) pc = .ok (.putfield idx, 3)) (hf : mx_flOK μ idx ci k r) (hs : sh[a]? = some (ci + 3, r.2.2)) (ht : mx_ty ci k = .object cn) (hfin : (r.2.1 k).2.2.2 = false)
    (kk : mx_E μ (pc + 3) ls st (f, sh, M, L, va_up Rf a (va_up (Rf a) k (some b))) bc bs P PX) (ha : a < 1000 := by decide) : mx_E μ pc ls (.ref b :: .ref a :: st) (f, sh, M, L, Rf) bc bs P PX := by
  intro X C D p l e R s m args below meth c H locs cells slots mc ms lc f0 hI hL hR hS h1 h2 h3 h4 h5
  obtain ⟨C1, T1, N1⟩ := r
  obtain ⟨⟨hc, hw, hty, hnm⟩, hk, hlk⟩ := hf
  have hv : mx_v X (.ref a) = .ref (X.1 + a) := by simp [mx_v, mx_ad, ha]
  rw [List.map_cons, List.map_cons, hv]
  refine va_put (H0 := H) hI.1 hI.2.1 hI.2.2.2.2.1 hw (mx_ty ci) hty hnm hI.2.2.2.1 hI.2.2.2.2.2.2.2.2.2.2.1.1 hR.1 (mx_w_D X C _) (mx_S_rf hS) a (mx_w_at (C := C) (h := (f, sh, M, L, Rf)) hs) hc k hk (hI.2.2.2.2.1 _ hlk) (fun _ z => z) hfin (ty := .object cn) (v := .ref (mx_ad X b)) (by rw [hty k hk, ht]) rfl rfl (by simpa using hk) hd (fun H1 locs1 q1 _ q3 => ?_)
  refine mx_st_tail kk hI hL hR hS h1 h2 h3 h4 h5 ?_ q3 rfl rfl
  have e0 := mx_w_set (X := X) (C := C) (h := (f, sh, M, L, Rf)) (h2 := (f, sh, M, L, va_up Rf a (va_up (Rf a) k (some b)))) rfl hs (fun j hj => by first | rfl | (show va_up M a _ j = M j; simp [va_up, hj])) (fun _ _ => rfl) (fun j hj => by first | rfl | (show va_up Rf a _ j = Rf j; simp [va_up, hj]))
  have e2 : mx_fv X ci (f, sh, M, L, va_up Rf a (va_up (Rf a) k (some b))) a k = .ref (mx_ad X b) := by simp [mx_fv, ht, mx_isI, va_up, va_rf]
  have e1 : mx_cell X C (f, sh, M, L, va_up Rf a (va_up (Rf a) k (some b))) a (ci + 3, N1) = .inr (ci, ((List.range N1).map (mx_fv X ci (f, sh, M, L, Rf) a)).set k (.ref (mx_ad X b))) := by
    rw [← e2, mx_range_set _ _ _ _ (fun i hi => ?_)]
    · rfl
    · simp [mx_fv, va_up, hi]
  rw [← e0, e1]
  exact q1
theorem ms_putRa {idx ci k a : Nat} {r : vw_C} {b : Nat} {et : FieldType} (hd : decode (mx_b μ) pc = .ok (.putfield idx, 3)) (hf : mx_flOK μ idx ci k r) (hs : sh[a]? = some (ci + 3, r.2.2)) (ht : mx_ty ci k = .array et) (hfin : (r.2.1 k).2.2.2 = false)
    (kk : mx_E μ (pc + 3) ls st (f, sh, M, L, va_up Rf a (va_up (Rf a) k (some b))) bc bs P PX) (ha : a < 1000 := by decide) : mx_E μ pc ls (.ref b :: .ref a :: st) (f, sh, M, L, Rf) bc bs P PX := by
  intro X C D p l e R s m args below meth c H locs cells slots mc ms lc f0 hI hL hR hS h1 h2 h3 h4 h5
  obtain ⟨C1, T1, N1⟩ := r
  obtain ⟨⟨hc, hw, hty, hnm⟩, hk, hlk⟩ := hf
  have hv : mx_v X (.ref a) = .ref (X.1 + a) := by simp [mx_v, mx_ad, ha]
  rw [List.map_cons, List.map_cons, hv]
  refine va_put (H0 := H) hI.1 hI.2.1 hI.2.2.2.2.1 hw (mx_ty ci) hty hnm hI.2.2.2.1 hI.2.2.2.2.2.2.2.2.2.2.1.1 hR.1 (mx_w_D X C _) (mx_S_rf hS) a (mx_w_at (C := C) (h := (f, sh, M, L, Rf)) hs) hc k hk (hI.2.2.2.2.1 _ hlk) (fun _ z => z) hfin (ty := .array et) (v := .ref (mx_ad X b)) (by rw [hty k hk, ht]) rfl rfl (by simpa using hk) hd (fun H1 locs1 q1 _ q3 => ?_)
  refine mx_st_tail kk hI hL hR hS h1 h2 h3 h4 h5 ?_ q3 rfl rfl
  have e0 := mx_w_set (X := X) (C := C) (h := (f, sh, M, L, Rf)) (h2 := (f, sh, M, L, va_up Rf a (va_up (Rf a) k (some b)))) rfl hs (fun j hj => by first | rfl | (show va_up M a _ j = M j; simp [va_up, hj])) (fun _ _ => rfl) (fun j hj => by first | rfl | (show va_up Rf a _ j = Rf j; simp [va_up, hj]))
  have e2 : mx_fv X ci (f, sh, M, L, va_up Rf a (va_up (Rf a) k (some b))) a k = .ref (mx_ad X b) := by simp [mx_fv, ht, mx_isI, va_up, va_rf]
  have e1 : mx_cell X C (f, sh, M, L, va_up Rf a (va_up (Rf a) k (some b))) a (ci + 3, N1) = .inr (ci, ((List.range N1).map (mx_fv X ci (f, sh, M, L, Rf) a)).set k (.ref (mx_ad X b))) := by
    rw [← e2, mx_range_set _ _ _ _ (fun i hi => ?_)]
    · rfl
    · simp [mx_fv, va_up, hi]
  rw [← e0, e1]
  exact q1
theorem ms_putRFo {idx ci k a : Nat} {r : vw_C} {b : Nat} {cn : String} (hd : decode (mx_b μ) pc = .ok (.putfield idx, 3)) (hf : mx_flOK μ idx ci k r) (hs : sh[a]? = some (ci + 3, r.2.2)) (ht : mx_ty ci k = .object cn) (hfin : (r.2.1 k).2.2.2 = true) (hin : (mx_y μ).name = "<init>") (hdecl : (r.2.1 k).1 = (mx_y μ).cls)
    (kk : mx_E μ (pc + 3) ls st (f, sh, M, L, va_up Rf a (va_up (Rf a) k (some b))) bc bs P PX) (ha : a < 1000 := by decide) : mx_E μ pc ls (.ref b :: .ref a :: st) (f, sh, M, L, Rf) bc bs P PX := by
  intro X C D p l e R s m args below meth c H locs cells slots mc ms lc f0 hI hL hR hS h1 h2 h3 h4 h5
  obtain ⟨C1, T1, N1⟩ := r
  obtain ⟨⟨hc, hw, hty, hnm⟩, hk, hlk⟩ := hf
  have hv : mx_v X (.ref a) = .ref (X.1 + a) := by simp [mx_v, mx_ad, ha]
  rw [List.map_cons, List.map_cons, hv]
  refine va_putF (H0 := H) hI.1 hI.2.1 hI.2.2.2.2.1 hw (mx_ty ci) hty hnm hI.2.2.2.1 hI.2.2.2.2.2.2.2.2.2.2.1.1 hR.1 (mx_w_D X C _) (mx_S_rf hS) a (mx_w_at (C := C) (h := (f, sh, M, L, Rf)) hs) hc k hk (hI.2.2.2.2.1 _ hlk) (fun _ z => z) hfin (hI.2.2.2.2.2.2.2.1.trans hin) hdecl (ty := .object cn) (v := .ref (mx_ad X b)) (by rw [hty k hk, ht]) rfl rfl (by simpa using hk) hd (fun H1 locs1 q1 _ q3 => ?_)
  refine mx_st_tail kk hI hL hR hS h1 h2 h3 h4 h5 ?_ q3 rfl rfl
  have e0 := mx_w_set (X := X) (C := C) (h := (f, sh, M, L, Rf)) (h2 := (f, sh, M, L, va_up Rf a (va_up (Rf a) k (some b)))) rfl hs (fun j hj => by first | rfl | (show va_up M a _ j = M j; simp [va_up, hj])) (fun _ _ => rfl) (fun j hj => by first | rfl | (show va_up Rf a _ j = Rf j; simp [va_up, hj]))
  have e2 : mx_fv X ci (f, sh, M, L, va_up Rf a (va_up (Rf a) k (some b))) a k = .ref (mx_ad X b) := by simp [mx_fv, ht, mx_isI, va_up, va_rf]
  have e1 : mx_cell X C (f, sh, M, L, va_up Rf a (va_up (Rf a) k (some b))) a (ci + 3, N1) = .inr (ci, ((List.range N1).map (mx_fv X ci (f, sh, M, L, Rf) a)).set k (.ref (mx_ad X b))) := by
    rw [← e2, mx_range_set _ _ _ _ (fun i hi => ?_)]
    · rfl
    · simp [mx_fv, va_up, hi]
  rw [← e0, e1]
  exact q1
theorem ms_putRFa {idx ci k a : Nat} {r : vw_C} {b : Nat} {et : FieldType} (hd : decode (mx_b μ) pc = .ok (.putfield idx, 3)) (hf : mx_flOK μ idx ci k r) (hs : sh[a]? = some (ci + 3, r.2.2)) (ht : mx_ty ci k = .array et) (hfin : (r.2.1 k).2.2.2 = true) (hin : (mx_y μ).name = "<init>") (hdecl : (r.2.1 k).1 = (mx_y μ).cls)
    (kk : mx_E μ (pc + 3) ls st (f, sh, M, L, va_up Rf a (va_up (Rf a) k (some b))) bc bs P PX) (ha : a < 1000 := by decide) : mx_E μ pc ls (.ref b :: .ref a :: st) (f, sh, M, L, Rf) bc bs P PX := by
  intro X C D p l e R s m args below meth c H locs cells slots mc ms lc f0 hI hL hR hS h1 h2 h3 h4 h5
  obtain ⟨C1, T1, N1⟩ := r
  obtain ⟨⟨hc, hw, hty, hnm⟩, hk, hlk⟩ := hf
  have hv : mx_v X (.ref a) = .ref (X.1 + a) := by simp [mx_v, mx_ad, ha]
  rw [List.map_cons, List.map_cons, hv]
  refine va_putF (H0 := H) hI.1 hI.2.1 hI.2.2.2.2.1 hw (mx_ty ci) hty hnm hI.2.2.2.1 hI.2.2.2.2.2.2.2.2.2.2.1.1 hR.1 (mx_w_D X C _) (mx_S_rf hS) a (mx_w_at (C := C) (h := (f, sh, M, L, Rf)) hs) hc k hk (hI.2.2.2.2.1 _ hlk) (fun _ z => z) hfin (hI.2.2.2.2.2.2.2.1.trans hin) hdecl (ty := .array et) (v := .ref (mx_ad X b)) (by rw [hty k hk, ht]) rfl rfl (by simpa using hk) hd (fun H1 locs1 q1 _ q3 => ?_)
  refine mx_st_tail kk hI hL hR hS h1 h2 h3 h4 h5 ?_ q3 rfl rfl
  have e0 := mx_w_set (X := X) (C := C) (h := (f, sh, M, L, Rf)) (h2 := (f, sh, M, L, va_up Rf a (va_up (Rf a) k (some b)))) rfl hs (fun j hj => by first | rfl | (show va_up M a _ j = M j; simp [va_up, hj])) (fun _ _ => rfl) (fun j hj => by first | rfl | (show va_up Rf a _ j = Rf j; simp [va_up, hj]))
  have e2 : mx_fv X ci (f, sh, M, L, va_up Rf a (va_up (Rf a) k (some b))) a k = .ref (mx_ad X b) := by simp [mx_fv, ht, mx_isI, va_up, va_rf]
  have e1 : mx_cell X C (f, sh, M, L, va_up Rf a (va_up (Rf a) k (some b))) a (ci + 3, N1) = .inr (ci, ((List.range N1).map (mx_fv X ci (f, sh, M, L, Rf) a)).set k (.ref (mx_ad X b))) := by
    rw [← e2, mx_range_set _ _ _ _ (fun i hi => ?_)]
    · rfl
    · simp [mx_fv, va_up, hi]
  rw [← e0, e1]
  exact q1
theorem ms_iald {a n : Nat} {i : Int32} (hd : decode (mx_b μ) pc = .ok (.iaload, 1)) (hs : sh[a]? = some (0, n)) (hin : vp_in i n) (kk : mx_E μ (pc + 1) ls (.int (M a i.toNatClampNeg) :: st) (f, sh, M, L, Rf) bc bs P PX) (ha : a < 1000 := by decide) : mx_E μ pc ls (.int i :: .ref a :: st) (f, sh, M, L, Rf) bc bs P PX := by
  intro X C D p l e R s m args below meth c H locs cells slots mc ms lc f0 hI hL hR hS h1 h2 h3 h4 h5
  have hv : mx_v X (.ref a) = .ref (X.1 + a) := by simp [mx_v, mx_ad, ha]
  rw [List.map_cons, List.map_cons, hv]
  exact va_iald hI.1 hI.2.1 hI.2.2.2.2.2.2.2.2.2.2.1.1 hR.1 a 0 (mx_w_at (C := C) (h := (f, sh, M, L, Rf)) hs) rfl hin hd (kk X C D p l e R s m args below meth c H locs cells slots mc ms lc f0 hI hL hR hS h1 h2 h3 h4 h5)
theorem ms_lald {a n : Nat} {i : Int32} (hd : decode (mx_b μ) pc = .ok (.laload, 1)) (hs : sh[a]? = some (1, n)) (hin : vp_in i n) (kk : mx_E μ (pc + 1) ls (.long (L a i.toNatClampNeg) :: st) (f, sh, M, L, Rf) bc bs P PX) (ha : a < 1000 := by decide) : mx_E μ pc ls (.int i :: .ref a :: st) (f, sh, M, L, Rf) bc bs P PX := by
  intro X C D p l e R s m args below meth c H locs cells slots mc ms lc f0 hI hL hR hS h1 h2 h3 h4 h5
  have hv : mx_v X (.ref a) = .ref (X.1 + a) := by simp [mx_v, mx_ad, ha]
  rw [List.map_cons, List.map_cons, hv]
  exact va_lald hI.1 hI.2.1 hI.2.2.2.2.2.2.2.2.2.2.1.1 hR.1 a 1 (mx_w_at (C := C) (h := (f, sh, M, L, Rf)) hs) rfl hin hd (kk X C D p l e R s m args below meth c H locs cells slots mc ms lc f0 hI hL hR hS h1 h2 h3 h4 h5)
theorem ms_aald {a n b : Nat} {i : Int32} (hd : decode (mx_b μ) pc = .ok (.aaload, 1)) (hs : sh[a]? = some (2, n)) (hin : vp_in i n) (hb : Rf a i.toNatClampNeg = some b) (kk : mx_E μ (pc + 1) ls (.ref b :: st) (f, sh, M, L, Rf) bc bs P PX) (ha : a < 1000 := by decide) : mx_E μ pc ls (.int i :: .ref a :: st) (f, sh, M, L, Rf) bc bs P PX := by
  intro X C D p l e R s m args below meth c H locs cells slots mc ms lc f0 hI hL hR hS h1 h2 h3 h4 h5
  have hv : mx_v X (.ref a) = .ref (X.1 + a) := by simp [mx_v, mx_ad, ha]
  rw [List.map_cons, List.map_cons, hv]
  refine va_aldq hI.1 hI.2.1 hI.2.2.2.2.2.2.2.2.2.2.1.1 hR.1 a 2 (mx_w_at (C := C) (h := (f, sh, M, L, Rf)) hs) rfl hin hd ?_
  have e1 : va_rf ((Rf a i.toNatClampNeg).map (mx_ad X)) = .ref (mx_ad X b) := by rw [hb]; rfl
  show W p l e R s m args below meth c H locs cells slots _ (F0 m (pc + 1) lc (va_rf ((Rf a i.toNatClampNeg).map (mx_ad X)) :: _))
  rw [e1]
  exact (kk X C D p l e R s m args below meth c H locs cells slots mc ms lc f0 hI hL hR hS h1 h2 h3 h4 h5)
theorem ms_alen {a n kd : Nat} {v : Int32} (hd : decode (mx_b μ) pc = .ok (.arraylength, 1)) (hs : sh[a]? = some (kd, n)) (hk : kd < 3) (hv : Int32.ofNat n = v) (kk : mx_E μ (pc + 1) ls (.int v :: st) (f, sh, M, L, Rf) bc bs P PX) (ha : a < 1000 := by decide) : mx_E μ pc ls (.ref a :: st) (f, sh, M, L, Rf) bc bs P PX := by
  intro X C D p l e R s m args below meth c H locs cells slots mc ms lc f0 hI hL hR hS h1 h2 h3 h4 h5
  have hv9 : mx_v X (.ref a) = .ref (X.1 + a) := by simp [mx_v, mx_ad, ha]
  rw [List.map_cons, hv9]
  have hw := mx_w_at (X := X) (C := C) (h := (f, sh, M, L, Rf)) hs
  match kd, hk with
  | 0, _ => exact va_alen hI.1 hI.2.1 hI.2.2.2.2.2.2.2.2.2.2.1.1 hR.1 a 0 hw rfl hv hd (kk X C D p l e R s m args below meth c H locs cells slots mc ms lc f0 hI hL hR hS h1 h2 h3 h4 h5)
  | 1, _ => exact va_alen hI.1 hI.2.1 hI.2.2.2.2.2.2.2.2.2.2.1.1 hR.1 a 1 hw rfl hv hd (kk X C D p l e R s m args below meth c H locs cells slots mc ms lc f0 hI hL hR hS h1 h2 h3 h4 h5)
  | 2, _ => exact va_alen hI.1 hI.2.1 hI.2.2.2.2.2.2.2.2.2.2.1.1 hR.1 a 2 hw rfl hv hd (kk X C D p l e R s m args below meth c H locs cells slots mc ms lc f0 hI hL hR hS h1 h2 h3 h4 h5)
theorem ms_iast {a n : Nat} {i x : Int32} (hd : decode (mx_b μ) pc = .ok (.iastore, 1)) (hs : sh[a]? = some (0, n)) (hin : vp_in i n) (kk : mx_E μ (pc + 1) ls st (f, sh, va_up M a (va_up (M a) i.toNatClampNeg x), L, Rf) bc bs P PX) (ha : a < 1000 := by decide) : mx_E μ pc ls (.int x :: .int i :: .ref a :: st) (f, sh, M, L, Rf) bc bs P PX := by
  intro X C D p l e R s m args below meth c H locs cells slots mc ms lc f0 hI hL hR hS h1 h2 h3 h4 h5
  have hv : mx_v X (.ref a) = .ref (X.1 + a) := by simp [mx_v, mx_ad, ha]
  rw [List.map_cons, List.map_cons, List.map_cons, hv]
  refine va_iast (H0 := H) hI.1 hI.2.1 hI.2.2.2.2.2.2.2.2.2.2.1.1 hR.1 (mx_w_D X C _) (mx_S_rf hS) a 0 (mx_w_at (C := C) (h := (f, sh, M, L, Rf)) hs) rfl hin hd (fun H1 locs1 q1 _ q3 => ?_)
  refine mx_st_tail kk hI hL hR hS h1 h2 h3 h4 h5 ?_ q3 rfl rfl
  have e0 := mx_w_set (X := X) (C := C) (h := (f, sh, M, L, Rf)) (h2 := (f, sh, va_up M a (va_up (M a) i.toNatClampNeg x), L, Rf)) rfl hs (fun j hj => by show va_up M a _ j = M j; simp [va_up, hj]) (fun _ _ => rfl) (fun _ _ => rfl)
  have e1 : mx_cell X C (f, sh, va_up M a (va_up (M a) i.toNatClampNeg x), L, Rf) a (0, n) = .inl (C.1, n, .inl (upd (M a) i.toNatClampNeg x)) := by
    simp only [mx_cell, va_up, if_true]
    rfl
  rw [← e0, e1]
  exact q1
theorem ms_last {a n : Nat} {i : Int32} {x : Int64} (hd : decode (mx_b μ) pc = .ok (.lastore, 1)) (hs : sh[a]? = some (1, n)) (hin : vp_in i n) (kk : mx_E μ (pc + 1) ls st (f, sh, M, va_up L a (va_up (L a) i.toNatClampNeg x), Rf) bc bs P PX) (ha : a < 1000 := by decide) : mx_E μ pc ls (.long x :: .int i :: .ref a :: st) (f, sh, M, L, Rf) bc bs P PX := by
  intro X C D p l e R s m args below meth c H locs cells slots mc ms lc f0 hI hL hR hS h1 h2 h3 h4 h5
  have hv : mx_v X (.ref a) = .ref (X.1 + a) := by simp [mx_v, mx_ad, ha]
  rw [List.map_cons, List.map_cons, List.map_cons, hv]
  refine va_last (H0 := H) hI.1 hI.2.1 hI.2.2.2.2.2.2.2.2.2.2.1.1 hR.1 (mx_w_D X C _) (mx_S_rf hS) a 1 (mx_w_at (C := C) (h := (f, sh, M, L, Rf)) hs) rfl hin hd (fun H1 locs1 q1 _ q3 => ?_)
  refine mx_st_tail kk hI hL hR hS h1 h2 h3 h4 h5 ?_ q3 rfl rfl
  have e0 := mx_w_set (X := X) (C := C) (h := (f, sh, M, L, Rf)) (h2 := (f, sh, M, va_up L a (va_up (L a) i.toNatClampNeg x), Rf)) rfl hs (fun _ _ => rfl) (fun j hj => by show va_up L a _ j = L j; simp [va_up, hj]) (fun _ _ => rfl)
  have e1 : mx_cell X C (f, sh, M, va_up L a (va_up (L a) i.toNatClampNeg x), Rf) a (1, n) = .inl (C.2.1, n, .inr (.inl (vp_updL (L a) i.toNatClampNeg x))) := by
    simp only [mx_cell, va_up, if_true]
    rfl
  rw [← e0, e1]
  exact q1
end MXH
end
section
section MXM
variable {μ : mx_M} {pc : Nat} {ls : List (Option Value)} {st : List Value} {bc bs : Nat} {P : Option Value → mx_H → Prop} {PX : String → mx_H → Prop}
variable {f : Bool} {sh : List (Nat × Nat)} {M : Nat → Nat → Int32} {L : Nat → Nat → Int64} {Rf : Nat → Nat → Option Nat}
/-- the world with one thing more -/
theorem mx_w_push {X : mx_X} {C : mx_Cs} {h h2 : mx_H} {q : Nat × Nat} (hs : h2.2.1 = h.2.1 ++ [q]) (h1 : ∀ k, k ≠ h.2.1.length → h2.2.2.1 k = h.2.2.1 k) (h3 : ∀ k, k ≠ h.2.1.length → h2.2.2.2.1 k = h.2.2.2.1 k) (h4 : ∀ k, k ≠ h.2.1.length → h2.2.2.2.2 k = h.2.2.2.2 k) :
    mx_w X C h ++ [(X.1 + h.2.1.length, mx_cell X C h2 h.2.1.length q)] = mx_w X C h2 := by
  refine List.ext_getElem? fun i => ?_
  have hl : (mx_w X C h).length = h.2.1.length := by simp [mx_w]
  by_cases hi : i < h.2.1.length
  · rw [List.getElem?_append_left (by omega)]
    obtain ⟨z, hz⟩ : ∃ z, h.2.1[i]? = some z := ⟨_, List.getElem?_eq_getElem hi⟩
    rw [mx_w_at hz, mx_w_at (h := h2) (q := z) (by rw [hs, List.getElem?_append_left hi]; exact hz)]
    rw [mx_cell_congr (h1 i (by omega)) (h3 i (by omega)) (h4 i (by omega))]
  · by_cases he : i = h.2.1.length
    · subst he
      rw [List.getElem?_append_right (by omega), hl, Nat.sub_self, mx_w_at (h := h2) (q := q) (by rw [hs]; simp)]
      rfl
    · rw [List.getElem?_eq_none (by simp [hl]; omega), List.getElem?_eq_none (by simp [mx_w, hs]; omega)]
theorem mx_new_tail {X : mx_X} {C : mx_Cs} {D : va_G} {p : Program} {l : Launch} {e : Env} {R : Room} {s : State} {m : MethodId} {args : Array Value} {below : List Frame} {meth : Method} {c : Code} {H H1 : Heap} {locs : List Loc} {cells slots mc ms n : Nat} {lc : Array Slot} {f0 : Bool} {h h2 : mx_H} {pc2 : Nat} {st2 : List Value} {q : Nat × Nat}
    (k : mx_E μ pc2 ls (.ref h.2.1.length :: st2) h2 bc bs P PX) (hI : mx_I μ X C D p l R s m args meth c) (hL : mx_L X (mx_nl μ) lc ls) (hR : mx_R X C D h H) (hS : va_S (mx_A X) s.heap H locs) (h1 : cells + (bc + 1) = mc) (h2' : slots + (bs + n) = ms) (h3 : mc ≤ R.cells) (h4 : ms ≤ R.slots) (h5 : h.1 = true → f0 = true ∧ s.heap.size + cells ≤ H.size)
    (hf : h.1 = true) (hlen : h.2.1.length < 1000) (hz : H1.size = H.size + 1) (ho : ∀ q, q < H.size → H1[q]? = H[q]?) (hs : h2.2.1 = h.2.1 ++ [q]) (h6 : ∀ k, k ≠ h.2.1.length → h2.2.2.1 k = h.2.2.1 k) (h7 : ∀ k, k ≠ h.2.1.length → h2.2.2.2.1 k = h.2.2.2.1 k) (h8 : ∀ k, k ≠ h.2.1.length → h2.2.2.2.2 k = h.2.2.2.2 k)
    (hc : va_at D vwCl (X.1 + h.2.1.length, mx_cell X C h2 h.2.1.length q) H1) :
    W p l e R s m args below meth c H1 locs (cells + 1) (slots + n) (vx_MQ below (mx_Qc X C D f0 mc P) (mx_XC X C D PX) args s mc ms (mx_A X)) (F0 m pc2 lc (.ref H.size :: st2.map (mx_v X))) := by
  have hsz := hR.2.1 hf
  have hP1 : va_P D vwCl (mx_w X C h2) H1 := by
    rw [← mx_w_push (h := h) hs h6 h7 h8]
    refine (hR.1.kept fun k z hz' => ho z.1 ((hR.1 k z hz').lt)).app fun k z hz' => ?_
    have hk : k < 1 := (List.getElem?_eq_some_iff.mp hz').1
    rw [show k = 0 by omega] at hz'
    cases hz'
    exact hc
  have hR1 : mx_R X C D h2 H1 := ⟨hP1, fun _ => by rw [hs, List.length_append, hz, hsz]; simp; omega, by have := hR.2.2; omega⟩
  have hS1 : va_S (mx_A X) s.heap H1 locs := ⟨by have := hS.1; omega, fun z hz1 hz2 => (ho z (Nat.lt_of_lt_of_le hz1 hS.1)).trans (hS.2.1 z hz1 hz2), hS.2.2⟩
  have := k X C D p l e R s m args below meth c H1 locs (cells + 1) (slots + n) mc ms lc f0 hI hL hR1 hS1 (by omega) (by omega) h3 h4 (fun _ => ⟨(h5 hf).1, by have := (h5 hf).2; omega⟩)
  rw [List.map_cons, show mx_v X (.ref h.2.1.length) = .ref H.size by simp [mx_v, mx_ad, hlen, hsz]] at this
  exact this
def mx_tok (t : FieldType) : Bool := match t with
  | .int => true
  | .boolean => true
  | .object _ => true
  | .array _ => true
  | _ => false
theorem mx_ty_ok (ci j : Nat) : mx_tok (mx_ty ci j) = true := by
  have h0 : mx_tok (tyX0 j) = true := by unfold tyX0; split <;> rfl
  have h1 : mx_tok (tyX1 j) = true := by unfold tyX1; split <;> rfl
  have h2 : mx_tok (tyX2 j) = true := by unfold tyX2; split <;> rfl
  have h3 : mx_tok (tyX3 j) = true := by unfold tyX3; split <;> rfl
  have h4 : mx_tok (tyX4 j) = true := by unfold tyX4; split <;> rfl
  have h5 : mx_tok (tyX5 j) = true := by unfold tyX5; split <;> rfl
  have h6 : mx_tok (tyX6 j) = true := by unfold tyX6; split <;> rfl
  have h7 : mx_tok (tyX7 j) = true := by unfold tyX7; split <;> rfl
  match ci with
  | 0 => exact h0
  | 1 => exact h1
  | 2 => exact h2
  | 3 => exact h3
  | 4 => exact h4
  | 5 => exact h5
  | 6 => exact h6
  | _ + 7 => exact h7
theorem ms_new {idx ci : Nat} {r : vw_C} (hd : decode (mx_b μ) pc = .ok (.new idx, 3)) (hc : mx_clOK ci r) (hw : Cond.classLink (mx_y μ).cls idx r.1 ∈ mx_T ∧ Cond.instantiable r.1 r.2.2 ∈ mx_T ∧ Cond.initialized r.1 ∈ mx_T) (hlen : sh.length < 1000)
    (kk : mx_E μ (pc + 3) ls (.ref sh.length :: st) (true, sh ++ [(ci + 3, r.2.2)], va_up M sh.length (fun _ => 0), L, va_up Rf sh.length (fun _ => none)) bc bs P PX) : mx_E μ pc ls st (true, sh, M, L, Rf) (bc + 1) (bs + r.2.2) P PX := by
  intro X C D p l e R s m args below meth c H locs cells slots mc ms lc f0 hI hL hR hS h1 h2 h3 h4 h5
  obtain ⟨C1, T1, N1⟩ := r
  obtain ⟨hc, hws, hty, hnm⟩ := hc
  have hKn := hI.2.2.2.2.2.2.2.2.2.2.1.1.1 ci _ hc
  refine W.newcK hI.1 hI.2.1 hI.2.2.2.1 (hI.2.2.2.2.1 _ hw.1) (hI.2.2.2.2.1 _ hw.2.1) (hI.2.2.2.2.1 _ hw.2.2) rfl hd (by omega) (by omega) hKn.2.1 rfl fun H1 kC hkC e1 z1 o1 => ?_
  refine mx_new_tail (h := (true, sh, M, L, Rf)) (q := (ci + 3, N1)) kk hI hL hR hS h1 h2 h3 h4 h5 rfl hlen z1 o1 rfl (fun k hk => by show va_up M _ _ k = M k; exact if_neg hk) (fun _ _ => rfl) (fun k hk => by show va_up Rf _ _ k = Rf k; exact if_neg hk) ?_
  have hsz : H.size = X.1 + sh.length := hR.2.1 rfl
  refine ⟨_, hc, ?_⟩
  rw [hsz] at e1
  refine (u_born (mx_ty ci) hI.2.2.2.2.1 hws hKn hkC e1 hty).to fun j hj => ?_
  show defaultValue (mx_ty ci j) = vp_V ((List.range N1).map (mx_fv X ci (true, sh ++ [(ci + 3, N1)], va_up M sh.length (fun _ => 0), L, va_up Rf sh.length (fun _ => none)) sh.length)) j
  have e2 : vp_V ((List.range N1).map (mx_fv X ci (true, sh ++ [(ci + 3, N1)], va_up M sh.length (fun _ => 0), L, va_up Rf sh.length (fun _ => none)) sh.length)) j = mx_fv X ci (true, sh ++ [(ci + 3, N1)], va_up M sh.length (fun _ => 0), L, va_up Rf sh.length (fun _ => none)) sh.length j := by
    have hj2 : j < N1 := hj
    simp [vp_V, hj2]
  rw [e2]
  have hok := mx_ty_ok ci j
  simp only [mx_fv, va_up, if_true]
  generalize mx_ty ci j = t at hok ⊢
  cases t <;> first | rfl | cases hok
theorem ms_newi {n : Int32} (hd : decode (mx_b μ) pc = .ok (.newarray .int, 2)) (hw : Cond.arrayClass .int ∈ mx_T) (hn : ¬ n < 0) {N : Nat} (hN : n.toNatClampNeg = N) (hb : N * 4 ≤ 536870912) (hlen : sh.length < 1000)
    (kk : mx_E μ (pc + 2) ls (.ref sh.length :: st) (true, sh ++ [(0, N)], va_up M sh.length (fun _ => 0), L, Rf) bc bs P PX) : mx_E μ pc ls (.int n :: st) (true, sh, M, L, Rf) (bc + 1) (bs + N) P PX := by
  intro X C D p l e R s m args below meth c H locs cells slots mc ms lc f0 hI hL hR hS h1 h2 h3 h4 h5
  refine va_newaK (atype := .int) hI.1 hI.2.1 (hI.2.2.2.2.1 _ hw) rfl hd rfl hn hN hb (by omega) (by omega) rfl fun H1 cA e1 z1 o1 _ hNm => ?_
  refine mx_new_tail (h := (true, sh, M, L, Rf)) (q := (0, N)) kk hI hL hR hS h1 h2 h3 h4 h5 rfl hlen z1 o1 rfl (fun k hk => by show va_up M _ _ k = M k; exact if_neg hk) (fun _ _ => rfl) (fun _ _ => rfl) ?_
  have hsz : H.size = X.1 + sh.length := hR.2.1 rfl
  have hcA : cA = C.1 := Option.some.inj (hNm.symm.trans (hI.2.2.2.2.2.2.2.2.2.2.1.1.2 0 _ rfl).2)
  subst hcA
  show H1[X.1 + sh.length]? = some (vp_cell C.1 (N, .inl (va_up M sh.length (fun _ => 0) sh.length)))
  rw [← hsz, e1]
  simp only [va_up, if_true]
  rfl
theorem ms_newl {n : Int32} (hd : decode (mx_b μ) pc = .ok (.newarray .long, 2)) (hw : Cond.arrayClass .long ∈ mx_T) (hn : ¬ n < 0) {N : Nat} (hN : n.toNatClampNeg = N) (hb : N * 8 ≤ 536870912) (hlen : sh.length < 1000)
    (kk : mx_E μ (pc + 2) ls (.ref sh.length :: st) (true, sh ++ [(1, N)], M, va_up L sh.length (fun _ => 0), Rf) bc bs P PX) : mx_E μ pc ls (.int n :: st) (true, sh, M, L, Rf) (bc + 1) (bs + N) P PX := by
  intro X C D p l e R s m args below meth c H locs cells slots mc ms lc f0 hI hL hR hS h1 h2 h3 h4 h5
  refine va_newaK (atype := .long) hI.1 hI.2.1 (hI.2.2.2.2.1 _ hw) rfl hd rfl hn hN hb (by omega) (by omega) rfl fun H1 cA e1 z1 o1 _ hNm => ?_
  refine mx_new_tail (h := (true, sh, M, L, Rf)) (q := (1, N)) kk hI hL hR hS h1 h2 h3 h4 h5 rfl hlen z1 o1 rfl (fun _ _ => rfl) (fun k hk => by show va_up L _ _ k = L k; exact if_neg hk) (fun _ _ => rfl) ?_
  have hsz : H.size = X.1 + sh.length := hR.2.1 rfl
  have hcA : cA = C.2.1 := Option.some.inj (hNm.symm.trans (hI.2.2.2.2.2.2.2.2.2.2.1.1.2 1 _ rfl).2)
  subst hcA
  show H1[X.1 + sh.length]? = some (vp_cell C.2.1 (N, .inr (.inl (va_up L sh.length (fun _ => 0) sh.length))))
  rw [← hsz, e1]
  simp only [va_up, if_true]
  rfl
theorem ms_newq {idx : Nat} {n : Int32} (hd : decode (mx_b μ) pc = .ok (.anewarray idx, 3)) (hw : Cond.classLink (mx_y μ).cls idx "java/lang/String" ∈ mx_T) (hn : ¬ n < 0) {N : Nat} (hN : n.toNatClampNeg = N) (hb : N * 4 ≤ 536870912) (hlen : sh.length < 1000)
    (kk : mx_E μ (pc + 3) ls (.ref sh.length :: st) (true, sh ++ [(2, N)], M, L, va_up Rf sh.length (fun _ => none)) bc bs P PX) : mx_E μ pc ls (.int n :: st) (true, sh, M, L, Rf) (bc + 1) (bs + N) P PX := by
  intro X C D p l e R s m args below meth c H locs cells slots mc ms lc f0 hI hL hR hS h1 h2 h3 h4 h5
  subst hN
  refine W.anew hI.1 hI.2.1 hI.2.2.2.1 (hI.2.2.2.2.1 _ hw) (va_AO.use hI.2.2.2.2.2.2.2.2.2.2.1.2.2.1) rfl hd rfl hn hb (by omega) (by omega) fun cA kA comp f1 f2 f3 f4 => ?_
  have hsz : H.size = X.1 + sh.length := hR.2.1 rfl
  refine mx_new_tail (h := (true, sh, M, L, Rf)) (q := (2, n.toNatClampNeg)) kk hI hL hR hS h1 h2 h3 h4 h5 rfl hlen (by rw [Array.size_push]) (fun q hq => by rw [Array.getElem?_push, if_neg (Nat.ne_of_lt hq)]) rfl (fun _ _ => rfl) (fun _ _ => rfl) (fun k hk => by show va_up Rf _ _ k = Rf k; exact if_neg hk) ?_
  have hcA : cA = C.2.2 := by
    obtain ⟨_, _, -, -, -, z4⟩ := (hI.2.2.2.2.2.2.2.2.2.2.1.1.2 2 _ rfl).2
    exact Option.some.inj (f1.symm.trans z4)
  subst hcA
  show (H.push _)[X.1 + sh.length]? = some (vp_cell C.2.2 (n.toNatClampNeg, .inr (.inr (.inr (.inr (fun i => (va_up Rf sh.length (fun _ => none) sh.length i).map (mx_ad X)))))))
  rw [← hsz, Array.getElem?_push_size, arrV_new]
  simp only [va_up, if_true]
  rfl
end MXM
end
