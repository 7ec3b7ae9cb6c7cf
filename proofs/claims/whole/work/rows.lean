section
-- ===== PART A: goes FIRST, ahead of the names: the tables' words, and 'selects' of the private methods out of them =====
/-- a private method of a class that the tables say can be made, by its rows of tables_1 -/
def lw_okq (q : MethodName × Nat) : Prop := (q.1.cls ≠ "java/lang/invoke/MethodHandle" ∧ q.1.cls ≠ "java/lang/invoke/VarHandle") ∧ Cond.instantiable q.1.cls q.2 ∈ tables_1 ∧ Cond.privateMethod q.1 ∈ tables_1 ∧ Cond.instanceMethod q.1 ∈ tables_1
theorem lw_p0 : lw_okq (⟨"TurnVoice$Reader", "readToken", "()V"⟩, 9) := ⟨⟨by decide +kernel, by decide +kernel⟩, List.mem_of_getElem? (i := 21) (by decide +kernel), List.mem_of_getElem? (i := 314) (by decide +kernel), List.mem_of_getElem? (i := 315) (by decide +kernel)⟩
theorem lw_p1 : lw_okq (⟨"TurnVoice$Reader", "readDigits", "()V"⟩, 9) := ⟨⟨by decide +kernel, by decide +kernel⟩, List.mem_of_getElem? (i := 21) (by decide +kernel), List.mem_of_getElem? (i := 322) (by decide +kernel), List.mem_of_getElem? (i := 323) (by decide +kernel)⟩
theorem lw_p2 : lw_okq (⟨"TurnVoice$Reader", "readItem", "(LTurnVoice$Town;Z)Z"⟩, 9) := ⟨⟨by decide +kernel, by decide +kernel⟩, List.mem_of_getElem? (i := 21) (by decide +kernel), List.mem_of_getElem? (i := 329) (by decide +kernel), List.mem_of_getElem? (i := 330) (by decide +kernel)⟩
theorem lw_p3 : lw_okq (⟨"TurnVoice$Reader", "canBegin", "(ILTurnVoice$Town;Z)Z"⟩, 9) := ⟨⟨by decide +kernel, by decide +kernel⟩, List.mem_of_getElem? (i := 21) (by decide +kernel), List.mem_of_getElem? (i := 333) (by decide +kernel), List.mem_of_getElem? (i := 334) (by decide +kernel)⟩
theorem lw_p4 : lw_okq (⟨"TurnVoice$Reader", "readNumbers", "(ILTurnVoice$Town;)Z"⟩, 9) := ⟨⟨by decide +kernel, by decide +kernel⟩, List.mem_of_getElem? (i := 21) (by decide +kernel), List.mem_of_getElem? (i := 337) (by decide +kernel), List.mem_of_getElem? (i := 338) (by decide +kernel)⟩
theorem lw_p5 : lw_okq (⟨"TurnVoice$Reader", "readPlaces", "(LTurnVoice$Town;)Z"⟩, 9) := ⟨⟨by decide +kernel, by decide +kernel⟩, List.mem_of_getElem? (i := 21) (by decide +kernel), List.mem_of_getElem? (i := 341) (by decide +kernel), List.mem_of_getElem? (i := 342) (by decide +kernel)⟩
theorem lw_p6 : lw_okq (⟨"TurnVoice$Reader", "readNumber", "(III)I"⟩, 9) := ⟨⟨by decide +kernel, by decide +kernel⟩, List.mem_of_getElem? (i := 21) (by decide +kernel), List.mem_of_getElem? (i := 345) (by decide +kernel), List.mem_of_getElem? (i := 346) (by decide +kernel)⟩
theorem lw_p7 : lw_okq (⟨"TurnVoice$Reader", "readRoad", "(LTurnVoice$Town;)Z"⟩, 9) := ⟨⟨by decide +kernel, by decide +kernel⟩, List.mem_of_getElem? (i := 21) (by decide +kernel), List.mem_of_getElem? (i := 349) (by decide +kernel), List.mem_of_getElem? (i := 350) (by decide +kernel)⟩
theorem lw_p8 : lw_okq (⟨"TurnVoice$Reader", "readStraight", "(LTurnVoice$Town;)Z"⟩, 9) := ⟨⟨by decide +kernel, by decide +kernel⟩, List.mem_of_getElem? (i := 21) (by decide +kernel), List.mem_of_getElem? (i := 357) (by decide +kernel), List.mem_of_getElem? (i := 358) (by decide +kernel)⟩
theorem lw_p9 : lw_okq (⟨"TurnVoice$Reader", "readGoal", "(LTurnVoice$Town;)Z"⟩, 9) := ⟨⟨by decide +kernel, by decide +kernel⟩, List.mem_of_getElem? (i := 21) (by decide +kernel), List.mem_of_getElem? (i := 365) (by decide +kernel), List.mem_of_getElem? (i := 366) (by decide +kernel)⟩
theorem lw_p10 : lw_okq (⟨"TurnVoice$Reader", "readNerves", "(LTurnVoice$Town;)Z"⟩, 9) := ⟨⟨by decide +kernel, by decide +kernel⟩, List.mem_of_getElem? (i := 21) (by decide +kernel), List.mem_of_getElem? (i := 369) (by decide +kernel), List.mem_of_getElem? (i := 370) (by decide +kernel)⟩
theorem lw_p11 : lw_okq (⟨"TurnVoice$Reader", "readLoad", "(LTurnVoice$Town;)Z"⟩, 9) := ⟨⟨by decide +kernel, by decide +kernel⟩, List.mem_of_getElem? (i := 21) (by decide +kernel), List.mem_of_getElem? (i := 373) (by decide +kernel), List.mem_of_getElem? (i := 374) (by decide +kernel)⟩
theorem lw_p12 : lw_okq (⟨"TurnVoice", "beginAnew", "()V"⟩, 15) := ⟨⟨by decide +kernel, by decide +kernel⟩, List.mem_of_getElem? (i := 13) (by decide +kernel), List.mem_of_getElem? (i := 377) (by decide +kernel), List.mem_of_getElem? (i := 378) (by decide +kernel)⟩
theorem lw_p13 : lw_okq (⟨"TurnVoice", "longOf", "(I)I"⟩, 15) := ⟨⟨by decide +kernel, by decide +kernel⟩, List.mem_of_getElem? (i := 13) (by decide +kernel), List.mem_of_getElem? (i := 393) (by decide +kernel), List.mem_of_getElem? (i := 394) (by decide +kernel)⟩
theorem lw_p14 : lw_okq (⟨"TurnVoice", "openRoads", "()I"⟩, 15) := ⟨⟨by decide +kernel, by decide +kernel⟩, List.mem_of_getElem? (i := 13) (by decide +kernel), List.mem_of_getElem? (i := 420) (by decide +kernel), List.mem_of_getElem? (i := 421) (by decide +kernel)⟩
theorem lw_p15 : lw_okq (⟨"TurnVoice", "canTake", "(II)Z"⟩, 15) := ⟨⟨by decide +kernel, by decide +kernel⟩, List.mem_of_getElem? (i := 13) (by decide +kernel), List.mem_of_getElem? (i := 440) (by decide +kernel), List.mem_of_getElem? (i := 441) (by decide +kernel)⟩
def lw_privs_1 : List (MethodName × Nat) := [(⟨"TurnVoice$Reader", "readToken", "()V"⟩, 9), (⟨"TurnVoice$Reader", "readDigits", "()V"⟩, 9), (⟨"TurnVoice$Reader", "readItem", "(LTurnVoice$Town;Z)Z"⟩, 9), (⟨"TurnVoice$Reader", "canBegin", "(ILTurnVoice$Town;Z)Z"⟩, 9), (⟨"TurnVoice$Reader", "readNumbers", "(ILTurnVoice$Town;)Z"⟩, 9), (⟨"TurnVoice$Reader", "readPlaces", "(LTurnVoice$Town;)Z"⟩, 9), (⟨"TurnVoice$Reader", "readNumber", "(III)I"⟩, 9), (⟨"TurnVoice$Reader", "readRoad", "(LTurnVoice$Town;)Z"⟩, 9), (⟨"TurnVoice$Reader", "readStraight", "(LTurnVoice$Town;)Z"⟩, 9), (⟨"TurnVoice$Reader", "readGoal", "(LTurnVoice$Town;)Z"⟩, 9), (⟨"TurnVoice$Reader", "readNerves", "(LTurnVoice$Town;)Z"⟩, 9), (⟨"TurnVoice$Reader", "readLoad", "(LTurnVoice$Town;)Z"⟩, 9), (⟨"TurnVoice", "beginAnew", "()V"⟩, 15), (⟨"TurnVoice", "longOf", "(I)I"⟩, 15), (⟨"TurnVoice", "openRoads", "()I"⟩, 15), (⟨"TurnVoice", "canTake", "(II)Z"⟩, 15)]
theorem lw_r1 : ∀ q ∈ lw_privs_1, lw_okq q := List.forall_mem_cons.mpr ⟨lw_p0, List.forall_mem_cons.mpr ⟨lw_p1, List.forall_mem_cons.mpr ⟨lw_p2, List.forall_mem_cons.mpr ⟨lw_p3, List.forall_mem_cons.mpr ⟨lw_p4, List.forall_mem_cons.mpr ⟨lw_p5, List.forall_mem_cons.mpr ⟨lw_p6, List.forall_mem_cons.mpr ⟨lw_p7, List.forall_mem_cons.mpr ⟨lw_p8, List.forall_mem_cons.mpr ⟨lw_p9, List.forall_mem_cons.mpr ⟨lw_p10, List.forall_mem_cons.mpr ⟨lw_p11, List.forall_mem_cons.mpr ⟨lw_p12, List.forall_mem_cons.mpr ⟨lw_p13, List.forall_mem_cons.mpr ⟨lw_p14, List.forall_mem_cons.mpr ⟨lw_p15, fun _ h => absurd h List.not_mem_nil⟩⟩⟩⟩⟩⟩⟩⟩⟩⟩⟩⟩⟩⟩⟩⟩
theorem lw_p16 : lw_okq (⟨"TurnVoice", "minutesOfTaking", "(II)I"⟩, 15) := ⟨⟨by decide +kernel, by decide +kernel⟩, List.mem_of_getElem? (i := 13) (by decide +kernel), List.mem_of_getElem? (i := 445) (by decide +kernel), List.mem_of_getElem? (i := 446) (by decide +kernel)⟩
theorem lw_p17 : lw_okq (⟨"TurnVoice$Voice", "measure", "()V"⟩, 9) := ⟨⟨by decide +kernel, by decide +kernel⟩, List.mem_of_getElem? (i := 172) (by decide +kernel), List.mem_of_getElem? (i := 509) (by decide +kernel), List.mem_of_getElem? (i := 510) (by decide +kernel)⟩
theorem lw_p18 : lw_okq (⟨"TurnVoice$Voice", "placeOf", "(I)I"⟩, 9) := ⟨⟨by decide +kernel, by decide +kernel⟩, List.mem_of_getElem? (i := 172) (by decide +kernel), List.mem_of_getElem? (i := 513) (by decide +kernel), List.mem_of_getElem? (i := 514) (by decide +kernel)⟩
theorem lw_p19 : lw_okq (⟨"TurnVoice$Voice", "nearestUnsettled", "(I)I"⟩, 9) := ⟨⟨by decide +kernel, by decide +kernel⟩, List.mem_of_getElem? (i := 172) (by decide +kernel), List.mem_of_getElem? (i := 518) (by decide +kernel), List.mem_of_getElem? (i := 519) (by decide +kernel)⟩
theorem lw_p20 : lw_okq (⟨"TurnVoice$Voice", "measureBefore", "(II)V"⟩, 9) := ⟨⟨by decide +kernel, by decide +kernel⟩, List.mem_of_getElem? (i := 172) (by decide +kernel), List.mem_of_getElem? (i := 522) (by decide +kernel), List.mem_of_getElem? (i := 523) (by decide +kernel)⟩
theorem lw_p21 : lw_okq (⟨"TurnVoice", "minutesOneByOne", "(II)I"⟩, 15) := ⟨⟨by decide +kernel, by decide +kernel⟩, List.mem_of_getElem? (i := 13) (by decide +kernel), List.mem_of_getElem? (i := 584) (by decide +kernel), List.mem_of_getElem? (i := 585) (by decide +kernel)⟩
theorem lw_p22 : lw_okq (⟨"TurnVoice", "minutesAlike", "(II)I"⟩, 15) := ⟨⟨by decide +kernel, by decide +kernel⟩, List.mem_of_getElem? (i := 13) (by decide +kernel), List.mem_of_getElem? (i := 592) (by decide +kernel), List.mem_of_getElem? (i := 593) (by decide +kernel)⟩
theorem lw_p23 : lw_okq (⟨"TurnVoice", "oneRoadOn", "(I)I"⟩, 15) := ⟨⟨by decide +kernel, by decide +kernel⟩, List.mem_of_getElem? (i := 13) (by decide +kernel), List.mem_of_getElem? (i := 604) (by decide +kernel), List.mem_of_getElem? (i := 605) (by decide +kernel)⟩
theorem lw_p24 : lw_okq (⟨"TurnVoice", "asSeen", "(II)I"⟩, 15) := ⟨⟨by decide +kernel, by decide +kernel⟩, List.mem_of_getElem? (i := 13) (by decide +kernel), List.mem_of_getElem? (i := 620) (by decide +kernel), List.mem_of_getElem? (i := 621) (by decide +kernel)⟩
theorem lw_p25 : lw_okq (⟨"TurnVoice$Odds", "commonUnit", "()J"⟩, 4) := ⟨⟨by decide +kernel, by decide +kernel⟩, List.mem_of_getElem? (i := 212) (by decide +kernel), List.mem_of_getElem? (i := 642) (by decide +kernel), List.mem_of_getElem? (i := 643) (by decide +kernel)⟩
theorem lw_p26 : lw_okq (⟨"TurnVoice$Odds", "takeAnyRoad", "(LTurnVoice$Town;J)V"⟩, 4) := ⟨⟨by decide +kernel, by decide +kernel⟩, List.mem_of_getElem? (i := 212) (by decide +kernel), List.mem_of_getElem? (i := 650) (by decide +kernel), List.mem_of_getElem? (i := 651) (by decide +kernel)⟩
theorem lw_p27 : lw_okq (⟨"TurnVoice$Odds", "spread", "(LTurnVoice$Town;IJ)V"⟩, 4) := ⟨⟨by decide +kernel, by decide +kernel⟩, List.mem_of_getElem? (i := 212) (by decide +kernel), List.mem_of_getElem? (i := 654) (by decide +kernel), List.mem_of_getElem? (i := 655) (by decide +kernel)⟩
theorem lw_p28 : lw_okq (⟨"TurnVoice$Odds", "inLeastTerms", "(JI)J"⟩, 4) := ⟨⟨by decide +kernel, by decide +kernel⟩, List.mem_of_getElem? (i := 212) (by decide +kernel), List.mem_of_getElem? (i := 665) (by decide +kernel), List.mem_of_getElem? (i := 666) (by decide +kernel)⟩
theorem lw_p29 : lw_okq (⟨"TurnVoice", "ratedAs", "(II)I"⟩, 15) := ⟨⟨by decide +kernel, by decide +kernel⟩, List.mem_of_getElem? (i := 13) (by decide +kernel), List.mem_of_getElem? (i := 678) (by decide +kernel), List.mem_of_getElem? (i := 679) (by decide +kernel)⟩
theorem lw_p30 : lw_okq (⟨"TurnVoiceModel", "begins", "()V"⟩, 31) := ⟨⟨by decide +kernel, by decide +kernel⟩, List.mem_of_getElem? (i := 703) (by decide +kernel), List.mem_of_getElem? (i := 709) (by decide +kernel), List.mem_of_getElem? (i := 710) (by decide +kernel)⟩
theorem lw_p31 : lw_okq (⟨"TurnVoiceModel", "settles", "()V"⟩, 31) := ⟨⟨by decide +kernel, by decide +kernel⟩, List.mem_of_getElem? (i := 703) (by decide +kernel), List.mem_of_getElem? (i := 713) (by decide +kernel), List.mem_of_getElem? (i := 714) (by decide +kernel)⟩
def lw_privs_2 : List (MethodName × Nat) := [(⟨"TurnVoice", "minutesOfTaking", "(II)I"⟩, 15), (⟨"TurnVoice$Voice", "measure", "()V"⟩, 9), (⟨"TurnVoice$Voice", "placeOf", "(I)I"⟩, 9), (⟨"TurnVoice$Voice", "nearestUnsettled", "(I)I"⟩, 9), (⟨"TurnVoice$Voice", "measureBefore", "(II)V"⟩, 9), (⟨"TurnVoice", "minutesOneByOne", "(II)I"⟩, 15), (⟨"TurnVoice", "minutesAlike", "(II)I"⟩, 15), (⟨"TurnVoice", "oneRoadOn", "(I)I"⟩, 15), (⟨"TurnVoice", "asSeen", "(II)I"⟩, 15), (⟨"TurnVoice$Odds", "commonUnit", "()J"⟩, 4), (⟨"TurnVoice$Odds", "takeAnyRoad", "(LTurnVoice$Town;J)V"⟩, 4), (⟨"TurnVoice$Odds", "spread", "(LTurnVoice$Town;IJ)V"⟩, 4), (⟨"TurnVoice$Odds", "inLeastTerms", "(JI)J"⟩, 4), (⟨"TurnVoice", "ratedAs", "(II)I"⟩, 15), (⟨"TurnVoiceModel", "begins", "()V"⟩, 31), (⟨"TurnVoiceModel", "settles", "()V"⟩, 31)]
theorem lw_r2 : ∀ q ∈ lw_privs_2, lw_okq q := List.forall_mem_cons.mpr ⟨lw_p16, List.forall_mem_cons.mpr ⟨lw_p17, List.forall_mem_cons.mpr ⟨lw_p18, List.forall_mem_cons.mpr ⟨lw_p19, List.forall_mem_cons.mpr ⟨lw_p20, List.forall_mem_cons.mpr ⟨lw_p21, List.forall_mem_cons.mpr ⟨lw_p22, List.forall_mem_cons.mpr ⟨lw_p23, List.forall_mem_cons.mpr ⟨lw_p24, List.forall_mem_cons.mpr ⟨lw_p25, List.forall_mem_cons.mpr ⟨lw_p26, List.forall_mem_cons.mpr ⟨lw_p27, List.forall_mem_cons.mpr ⟨lw_p28, List.forall_mem_cons.mpr ⟨lw_p29, List.forall_mem_cons.mpr ⟨lw_p30, List.forall_mem_cons.mpr ⟨lw_p31, fun _ h => absurd h List.not_mem_nil⟩⟩⟩⟩⟩⟩⟩⟩⟩⟩⟩⟩⟩⟩⟩⟩
theorem lw_p32 : lw_okq (⟨"TurnVoiceModel", "advances", "()V"⟩, 31) := ⟨⟨by decide +kernel, by decide +kernel⟩, List.mem_of_getElem? (i := 703) (by decide +kernel), List.mem_of_getElem? (i := 826) (by decide +kernel), List.mem_of_getElem? (i := 827) (by decide +kernel)⟩
theorem lw_p33 : lw_okq (⟨"TurnVoiceModel", "letterAt", "(I)I"⟩, 31) := ⟨⟨by decide +kernel, by decide +kernel⟩, List.mem_of_getElem? (i := 703) (by decide +kernel), List.mem_of_getElem? (i := 830) (by decide +kernel), List.mem_of_getElem? (i := 831) (by decide +kernel)⟩
theorem lw_p34 : lw_okq (⟨"TurnVoiceModel", "isWell", "()Z"⟩, 31) := ⟨⟨by decide +kernel, by decide +kernel⟩, List.mem_of_getElem? (i := 703) (by decide +kernel), List.mem_of_getElem? (i := 837) (by decide +kernel), List.mem_of_getElem? (i := 838) (by decide +kernel)⟩
theorem lw_p35 : lw_okq (⟨"TurnVoiceModel", "mayBegin", "(I)Z"⟩, 31) := ⟨⟨by decide +kernel, by decide +kernel⟩, List.mem_of_getElem? (i := 703) (by decide +kernel), List.mem_of_getElem? (i := 841) (by decide +kernel), List.mem_of_getElem? (i := 842) (by decide +kernel)⟩
theorem lw_p36 : lw_okq (⟨"TurnVoiceModel", "takesToken", "(Z)I"⟩, 31) := ⟨⟨by decide +kernel, by decide +kernel⟩, List.mem_of_getElem? (i := 703) (by decide +kernel), List.mem_of_getElem? (i := 848) (by decide +kernel), List.mem_of_getElem? (i := 849) (by decide +kernel)⟩
theorem lw_p37 : lw_okq (⟨"TurnVoiceModel", "readsItem", "(I)V"⟩, 31) := ⟨⟨by decide +kernel, by decide +kernel⟩, List.mem_of_getElem? (i := 703) (by decide +kernel), List.mem_of_getElem? (i := 852) (by decide +kernel), List.mem_of_getElem? (i := 853) (by decide +kernel)⟩
theorem lw_p38 : lw_okq (⟨"TurnVoiceModel", "number", "(II)I"⟩, 31) := ⟨⟨by decide +kernel, by decide +kernel⟩, List.mem_of_getElem? (i := 703) (by decide +kernel), List.mem_of_getElem? (i := 856) (by decide +kernel), List.mem_of_getElem? (i := 857) (by decide +kernel)⟩
theorem lw_p39 : lw_okq (⟨"TurnVoiceModel", "unlike", "(II)I"⟩, 31) := ⟨⟨by decide +kernel, by decide +kernel⟩, List.mem_of_getElem? (i := 703) (by decide +kernel), List.mem_of_getElem? (i := 860) (by decide +kernel), List.mem_of_getElem? (i := 861) (by decide +kernel)⟩
theorem lw_p40 : lw_okq (⟨"TurnVoiceModel", "isRoad", "(I)Z"⟩, 31) := ⟨⟨by decide +kernel, by decide +kernel⟩, List.mem_of_getElem? (i := 703) (by decide +kernel), List.mem_of_getElem? (i := 868) (by decide +kernel), List.mem_of_getElem? (i := 869) (by decide +kernel)⟩
theorem lw_p41 : lw_okq (⟨"TurnVoiceModel", "isPlace", "(I)Z"⟩, 31) := ⟨⟨by decide +kernel, by decide +kernel⟩, List.mem_of_getElem? (i := 703) (by decide +kernel), List.mem_of_getElem? (i := 876) (by decide +kernel), List.mem_of_getElem? (i := 877) (by decide +kernel)⟩
theorem lw_p42 : lw_okq (⟨"TurnVoiceModel", "openNow", "()I"⟩, 31) := ⟨⟨by decide +kernel, by decide +kernel⟩, List.mem_of_getElem? (i := 703) (by decide +kernel), List.mem_of_getElem? (i := 880) (by decide +kernel), List.mem_of_getElem? (i := 881) (by decide +kernel)⟩
theorem lw_p43 : lw_okq (⟨"TurnVoiceModel", "roadsAt", "(II)I"⟩, 31) := ⟨⟨by decide +kernel, by decide +kernel⟩, List.mem_of_getElem? (i := 703) (by decide +kernel), List.mem_of_getElem? (i := 884) (by decide +kernel), List.mem_of_getElem? (i := 885) (by decide +kernel)⟩
theorem lw_p44 : lw_okq (⟨"TurnVoiceModel", "isAt", "(II)Z"⟩, 31) := ⟨⟨by decide +kernel, by decide +kernel⟩, List.mem_of_getElem? (i := 703) (by decide +kernel), List.mem_of_getElem? (i := 888) (by decide +kernel), List.mem_of_getElem? (i := 889) (by decide +kernel)⟩
theorem lw_p45 : lw_okq (⟨"TurnVoiceModel", "asNow", "()V"⟩, 31) := ⟨⟨by decide +kernel, by decide +kernel⟩, List.mem_of_getElem? (i := 703) (by decide +kernel), List.mem_of_getElem? (i := 900) (by decide +kernel), List.mem_of_getElem? (i := 901) (by decide +kernel)⟩
theorem lw_p46 : lw_okq (⟨"TurnVoiceModel", "cost", "(II)I"⟩, 31) := ⟨⟨by decide +kernel, by decide +kernel⟩, List.mem_of_getElem? (i := 703) (by decide +kernel), List.mem_of_getElem? (i := 904) (by decide +kernel), List.mem_of_getElem? (i := 905) (by decide +kernel)⟩
theorem lw_p47 : lw_okq (⟨"TurnVoiceModel", "isTurn", "(II)Z"⟩, 31) := ⟨⟨by decide +kernel, by decide +kernel⟩, List.mem_of_getElem? (i := 703) (by decide +kernel), List.mem_of_getElem? (i := 908) (by decide +kernel), List.mem_of_getElem? (i := 909) (by decide +kernel)⟩
def lw_privs_3 : List (MethodName × Nat) := [(⟨"TurnVoiceModel", "advances", "()V"⟩, 31), (⟨"TurnVoiceModel", "letterAt", "(I)I"⟩, 31), (⟨"TurnVoiceModel", "isWell", "()Z"⟩, 31), (⟨"TurnVoiceModel", "mayBegin", "(I)Z"⟩, 31), (⟨"TurnVoiceModel", "takesToken", "(Z)I"⟩, 31), (⟨"TurnVoiceModel", "readsItem", "(I)V"⟩, 31), (⟨"TurnVoiceModel", "number", "(II)I"⟩, 31), (⟨"TurnVoiceModel", "unlike", "(II)I"⟩, 31), (⟨"TurnVoiceModel", "isRoad", "(I)Z"⟩, 31), (⟨"TurnVoiceModel", "isPlace", "(I)Z"⟩, 31), (⟨"TurnVoiceModel", "openNow", "()I"⟩, 31), (⟨"TurnVoiceModel", "roadsAt", "(II)I"⟩, 31), (⟨"TurnVoiceModel", "isAt", "(II)Z"⟩, 31), (⟨"TurnVoiceModel", "asNow", "()V"⟩, 31), (⟨"TurnVoiceModel", "cost", "(II)I"⟩, 31), (⟨"TurnVoiceModel", "isTurn", "(II)Z"⟩, 31)]
theorem lw_r3 : ∀ q ∈ lw_privs_3, lw_okq q := List.forall_mem_cons.mpr ⟨lw_p32, List.forall_mem_cons.mpr ⟨lw_p33, List.forall_mem_cons.mpr ⟨lw_p34, List.forall_mem_cons.mpr ⟨lw_p35, List.forall_mem_cons.mpr ⟨lw_p36, List.forall_mem_cons.mpr ⟨lw_p37, List.forall_mem_cons.mpr ⟨lw_p38, List.forall_mem_cons.mpr ⟨lw_p39, List.forall_mem_cons.mpr ⟨lw_p40, List.forall_mem_cons.mpr ⟨lw_p41, List.forall_mem_cons.mpr ⟨lw_p42, List.forall_mem_cons.mpr ⟨lw_p43, List.forall_mem_cons.mpr ⟨lw_p44, List.forall_mem_cons.mpr ⟨lw_p45, List.forall_mem_cons.mpr ⟨lw_p46, List.forall_mem_cons.mpr ⟨lw_p47, fun _ h => absurd h List.not_mem_nil⟩⟩⟩⟩⟩⟩⟩⟩⟩⟩⟩⟩⟩⟩⟩⟩
theorem lw_p48 : lw_okq (⟨"TurnVoiceModel", "notes", "()V"⟩, 31) := ⟨⟨by decide +kernel, by decide +kernel⟩, List.mem_of_getElem? (i := 703) (by decide +kernel), List.mem_of_getElem? (i := 912) (by decide +kernel), List.mem_of_getElem? (i := 913) (by decide +kernel)⟩
theorem lw_p49 : lw_okq (⟨"TurnVoiceModel", "otherEnd", "(II)I"⟩, 31) := ⟨⟨by decide +kernel, by decide +kernel⟩, List.mem_of_getElem? (i := 703) (by decide +kernel), List.mem_of_getElem? (i := 916) (by decide +kernel), List.mem_of_getElem? (i := 917) (by decide +kernel)⟩
theorem lw_p50 : lw_okq (⟨"TurnVoiceModel", "measures", "()V"⟩, 31) := ⟨⟨by decide +kernel, by decide +kernel⟩, List.mem_of_getElem? (i := 703) (by decide +kernel), List.mem_of_getElem? (i := 939) (by decide +kernel), List.mem_of_getElem? (i := 940) (by decide +kernel)⟩
theorem lw_p51 : lw_okq (⟨"TurnVoiceModel", "farFrom", "(II)I"⟩, 31) := ⟨⟨by decide +kernel, by decide +kernel⟩, List.mem_of_getElem? (i := 703) (by decide +kernel), List.mem_of_getElem? (i := 944) (by decide +kernel), List.mem_of_getElem? (i := 945) (by decide +kernel)⟩
theorem lw_p52 : lw_okq (⟨"TurnVoiceModel", "onBy", "(III)I"⟩, 31) := ⟨⟨by decide +kernel, by decide +kernel⟩, List.mem_of_getElem? (i := 703) (by decide +kernel), List.mem_of_getElem? (i := 948) (by decide +kernel), List.mem_of_getElem? (i := 949) (by decide +kernel)⟩
theorem lw_p53 : lw_okq (⟨"TurnVoiceModel", "kthFrom", "(III)I"⟩, 31) := ⟨⟨by decide +kernel, by decide +kernel⟩, List.mem_of_getElem? (i := 703) (by decide +kernel), List.mem_of_getElem? (i := 952) (by decide +kernel), List.mem_of_getElem? (i := 953) (by decide +kernel)⟩
theorem lw_p54 : lw_okq (⟨"TurnVoiceModel", "firstFrom", "(II)I"⟩, 31) := ⟨⟨by decide +kernel, by decide +kernel⟩, List.mem_of_getElem? (i := 703) (by decide +kernel), List.mem_of_getElem? (i := 956) (by decide +kernel), List.mem_of_getElem? (i := 957) (by decide +kernel)⟩
theorem lw_p55 : lw_okq (⟨"TurnVoiceModel", "whereBehind", "(IZ)I"⟩, 31) := ⟨⟨by decide +kernel, by decide +kernel⟩, List.mem_of_getElem? (i := 703) (by decide +kernel), List.mem_of_getElem? (i := 992) (by decide +kernel), List.mem_of_getElem? (i := 993) (by decide +kernel)⟩
theorem lw_p56 : lw_okq (⟨"TurnVoiceModel", "stepped", "(I)I"⟩, 31) := ⟨⟨by decide +kernel, by decide +kernel⟩, List.mem_of_getElem? (i := 703) (by decide +kernel), List.mem_of_getElem? (i := 996) (by decide +kernel), List.mem_of_getElem? (i := 997) (by decide +kernel)⟩
def lw_privs_4 : List (MethodName × Nat) := [(⟨"TurnVoiceModel", "notes", "()V"⟩, 31), (⟨"TurnVoiceModel", "otherEnd", "(II)I"⟩, 31), (⟨"TurnVoiceModel", "measures", "()V"⟩, 31), (⟨"TurnVoiceModel", "farFrom", "(II)I"⟩, 31), (⟨"TurnVoiceModel", "onBy", "(III)I"⟩, 31), (⟨"TurnVoiceModel", "kthFrom", "(III)I"⟩, 31), (⟨"TurnVoiceModel", "firstFrom", "(II)I"⟩, 31), (⟨"TurnVoiceModel", "whereBehind", "(IZ)I"⟩, 31), (⟨"TurnVoiceModel", "stepped", "(I)I"⟩, 31)]
theorem lw_r4 : ∀ q ∈ lw_privs_4, lw_okq q := List.forall_mem_cons.mpr ⟨lw_p48, List.forall_mem_cons.mpr ⟨lw_p49, List.forall_mem_cons.mpr ⟨lw_p50, List.forall_mem_cons.mpr ⟨lw_p51, List.forall_mem_cons.mpr ⟨lw_p52, List.forall_mem_cons.mpr ⟨lw_p53, List.forall_mem_cons.mpr ⟨lw_p54, List.forall_mem_cons.mpr ⟨lw_p55, List.forall_mem_cons.mpr ⟨lw_p56, fun _ h => absurd h List.not_mem_nil⟩⟩⟩⟩⟩⟩⟩⟩⟩
def lw_privs : List (MethodName × Nat) := lw_privs_1 ++ (lw_privs_2 ++ (lw_privs_3 ++ (lw_privs_4)))
def lw_tbl : List Cond := k2_sels lw_privs ++ tables_1
theorem lw_privs_ok : ∀ q ∈ lw_privs, lw_okq q := by
  show ∀ q ∈ lw_privs_1 ++ (lw_privs_2 ++ (lw_privs_3 ++ (lw_privs_4))), lw_okq q
  exact List.forall_mem_append.mpr ⟨lw_r1, List.forall_mem_append.mpr ⟨lw_r2, List.forall_mem_append.mpr ⟨lw_r3, lw_r4⟩⟩⟩
-- ===== end of PART A; then your names; then what follows =====
end
section
def RX0 : String := "TurnVoice$Odds"
def TX0 : u_T := fun k => match k with
  | 0 => ("TurnVoice$Odds", "whole", "J", false)
  | 1 => ("TurnVoice$Odds", "parts", "[J", true)
  | 2 => ("TurnVoice$Odds", "nextParts", "[J", true)
  | _ => ("TurnVoice$Odds", "roadsAt", "[I", true)
def tyX0 : Nat → FieldType := fun k => match k with
  | 0 => .long
  | 1 => .array .long
  | 2 => .array .long
  | _ => .array .int
abbrev wsX00 : List Cond := u_ws RX0 TX0 4
theorem nmX0 : ∀ a, a < 4 → ∀ b, b < 4 → a ≠ b → (TX0 a).2.1 ≠ (TX0 b).2.1 := by decide +kernel
theorem tyX0_ok : ∀ k, k < 4 → parseFieldDescriptor (TX0 k).2.2.1 = some (tyX0 k) := by decide +kernel
abbrev cX0_init : ByteArray := prog_2_method_1_code
def yX0_init : MethodName := ⟨RX0, "<init>", "()V"⟩
abbrev cX0_drive : ByteArray := prog_2_method_2_code
def yX0_drive : MethodName := ⟨RX0, "drive", "(LTurnVoice$Town;III)V"⟩
abbrev cX0_commonUnit : ByteArray := prog_2_method_3_code
def yX0_commonUnit : MethodName := ⟨RX0, "commonUnit", "()J"⟩
abbrev cX0_takeAnyRoad : ByteArray := prog_2_method_4_code
def yX0_takeAnyRoad : MethodName := ⟨RX0, "takeAnyRoad", "(LTurnVoice$Town;J)V"⟩
abbrev cX0_spread : ByteArray := prog_2_method_5_code
def yX0_spread : MethodName := ⟨RX0, "spread", "(LTurnVoice$Town;IJ)V"⟩
abbrev cX0_upper : ByteArray := prog_2_method_6_code
def yX0_upper : MethodName := ⟨RX0, "upper", "(I)J"⟩
abbrev cX0_lower : ByteArray := prog_2_method_7_code
def yX0_lower : MethodName := ⟨RX0, "lower", "(I)J"⟩
abbrev cX0_inLeastTerms : ByteArray := prog_2_method_8_code
def yX0_inLeastTerms : MethodName := ⟨RX0, "inLeastTerms", "(JI)J"⟩
abbrev cX0_commonDivisor : ByteArray := prog_2_method_9_code
def yX0_commonDivisor : MethodName := ⟨RX0, "commonDivisor", "(JJ)J"⟩
def RX1 : String := "TurnVoice$Past"
def TX1 : u_T := fun k => match k with
  | 0 => ("TurnVoice$Past", "known", "[LTurnVoice$Present;", true)
  | 1 => ("TurnVoice$Past", "next", "I", false)
  | _ => ("TurnVoice$Past", "kept", "I", false)
def tyX1 : Nat → FieldType := fun k => match k with
  | 0 => .array (.object "TurnVoice$Present")
  | 1 => .int
  | _ => .int
abbrev wsX10 : List Cond := u_ws RX1 TX1 3
theorem nmX1 : ∀ a, a < 3 → ∀ b, b < 3 → a ≠ b → (TX1 a).2.1 ≠ (TX1 b).2.1 := by decide +kernel
theorem tyX1_ok : ∀ k, k < 3 → parseFieldDescriptor (TX1 k).2.2.1 = some (tyX1 k) := by decide +kernel
abbrev cX1_init : ByteArray := prog_3_method_1_code
def yX1_init : MethodName := ⟨RX1, "<init>", "()V"⟩
abbrev cX1_size : ByteArray := prog_3_method_2_code
def yX1_size : MethodName := ⟨RX1, "size", "()I"⟩
abbrev cX1_remember : ByteArray := prog_3_method_3_code
def yX1_remember : MethodName := ⟨RX1, "remember", "(LTurnVoice$Present;)V"⟩
abbrev cX1_restore : ByteArray := prog_3_method_4_code
def yX1_restore : MethodName := ⟨RX1, "restore", "(LTurnVoice$Present;)Z"⟩
abbrev cX1_lose : ByteArray := prog_3_method_5_code
def yX1_lose : MethodName := ⟨RX1, "lose", "()V"⟩
def RX2 : String := "TurnVoice$Present"
def TX2 : u_T := fun k => match k with
  | 0 => ("TurnVoice$Present", "at", "I", false)
  | 1 => ("TurnVoice$Present", "came", "I", false)
  | 2 => ("TurnVoice$Present", "minutes", "I", false)
  | 3 => ("TurnVoice$Present", "turns", "I", false)
  | 4 => ("TurnVoice$Present", "shut", "I", false)
  | _ => ("TurnVoice$Present", "jam", "[I", true)
def tyX2 : Nat → FieldType := fun k => match k with
  | 0 => .int
  | 1 => .int
  | 2 => .int
  | 3 => .int
  | 4 => .int
  | _ => .array .int
abbrev wsX20 : List Cond := u_ws RX2 TX2 6
theorem nmX2 : ∀ a, a < 6 → ∀ b, b < 6 → a ≠ b → (TX2 a).2.1 ≠ (TX2 b).2.1 := by decide +kernel
theorem tyX2_ok : ∀ k, k < 6 → parseFieldDescriptor (TX2 k).2.2.1 = some (tyX2 k) := by decide +kernel
abbrev cX2_init : ByteArray := prog_4_method_1_code
def yX2_init : MethodName := ⟨RX2, "<init>", "()V"⟩
abbrev cX2_startAt : ByteArray := prog_4_method_2_code
def yX2_startAt : MethodName := ⟨RX2, "startAt", "(I)V"⟩
abbrev cX2_become : ByteArray := prog_4_method_3_code
def yX2_become : MethodName := ⟨RX2, "become", "(LTurnVoice$Present;)V"⟩
abbrev cX2_isShut : ByteArray := prog_4_method_4_code
def yX2_isShut : MethodName := ⟨RX2, "isShut", "(I)Z"⟩
def RX3 : String := "TurnVoice$Reader"
def TX3 : u_T := fun k => match k with
  | 0 => ("TurnVoice$Reader", "letters", "[I", true)
  | 1 => ("TurnVoice$Reader", "length", "I", false)
  | 2 => ("TurnVoice$Reader", "next", "I", false)
  | 3 => ("TurnVoice$Reader", "token", "I", false)
  | 4 => ("TurnVoice$Reader", "tokenAt", "I", false)
  | 5 => ("TurnVoice$Reader", "number", "I", false)
  | 6 => ("TurnVoice$Reader", "goalTold", "Z", false)
  | 7 => ("TurnVoice$Reader", "nervesTold", "Z", false)
  | _ => ("TurnVoice$Reader", "loadTold", "Z", false)
def tyX3 : Nat → FieldType := fun k => match k with
  | 0 => .array .int
  | 1 => .int
  | 2 => .int
  | 3 => .int
  | 4 => .int
  | 5 => .int
  | 6 => .boolean
  | 7 => .boolean
  | _ => .boolean
abbrev wsX30 : List Cond := u_ws RX3 TX3 9
theorem nmX3 : ∀ a, a < 9 → ∀ b, b < 9 → a ≠ b → (TX3 a).2.1 ≠ (TX3 b).2.1 := by decide +kernel
theorem tyX3_ok : ∀ k, k < 9 → parseFieldDescriptor (TX3 k).2.2.1 = some (tyX3 k) := by decide +kernel
abbrev cX3_init : ByteArray := prog_5_method_1_code
def yX3_init : MethodName := ⟨RX3, "<init>", "()V"⟩
abbrev cX3_size : ByteArray := prog_5_method_2_code
def yX3_size : MethodName := ⟨RX3, "size", "()I"⟩
abbrev cX3_add : ByteArray := prog_5_method_3_code
def yX3_add : MethodName := ⟨RX3, "add", "(I)Z"⟩
abbrev cX3_empty : ByteArray := prog_5_method_4_code
def yX3_empty : MethodName := ⟨RX3, "empty", "()I"⟩
abbrev cX3_read : ByteArray := prog_5_method_5_code
def yX3_read : MethodName := ⟨RX3, "read", "(LTurnVoice$Town;)I"⟩
abbrev cX3_readItem : ByteArray := prog_5_method_6_code
def yX3_readItem : MethodName := ⟨RX3, "readItem", "(LTurnVoice$Town;Z)Z"⟩
abbrev cX3_canBegin : ByteArray := prog_5_method_7_code
def yX3_canBegin : MethodName := ⟨RX3, "canBegin", "(ILTurnVoice$Town;Z)Z"⟩
abbrev cX3_readNumbers : ByteArray := prog_5_method_8_code
def yX3_readNumbers : MethodName := ⟨RX3, "readNumbers", "(ILTurnVoice$Town;)Z"⟩
abbrev cX3_readPlaces : ByteArray := prog_5_method_9_code
def yX3_readPlaces : MethodName := ⟨RX3, "readPlaces", "(LTurnVoice$Town;)Z"⟩
abbrev cX3_readRoad : ByteArray := prog_5_method_10_code
def yX3_readRoad : MethodName := ⟨RX3, "readRoad", "(LTurnVoice$Town;)Z"⟩
abbrev cX3_readStraight : ByteArray := prog_5_method_11_code
def yX3_readStraight : MethodName := ⟨RX3, "readStraight", "(LTurnVoice$Town;)Z"⟩
abbrev cX3_readGoal : ByteArray := prog_5_method_12_code
def yX3_readGoal : MethodName := ⟨RX3, "readGoal", "(LTurnVoice$Town;)Z"⟩
abbrev cX3_readNerves : ByteArray := prog_5_method_13_code
def yX3_readNerves : MethodName := ⟨RX3, "readNerves", "(LTurnVoice$Town;)Z"⟩
abbrev cX3_readLoad : ByteArray := prog_5_method_14_code
def yX3_readLoad : MethodName := ⟨RX3, "readLoad", "(LTurnVoice$Town;)Z"⟩
abbrev cX3_readNumber : ByteArray := prog_5_method_15_code
def yX3_readNumber : MethodName := ⟨RX3, "readNumber", "(III)I"⟩
abbrev cX3_readToken : ByteArray := prog_5_method_16_code
def yX3_readToken : MethodName := ⟨RX3, "readToken", "()V"⟩
abbrev cX3_readDigits : ByteArray := prog_5_method_17_code
def yX3_readDigits : MethodName := ⟨RX3, "readDigits", "()V"⟩
abbrev cX3_isDigit : ByteArray := prog_5_method_18_code
def yX3_isDigit : MethodName := ⟨RX3, "isDigit", "(I)Z"⟩
abbrev cX3_isTokenLetter : ByteArray := prog_5_method_19_code
def yX3_isTokenLetter : MethodName := ⟨RX3, "isTokenLetter", "(I)Z"⟩
def RX4 : String := "TurnVoice$Town"
def TX4 : u_T := fun k => match k with
  | 0 => ("TurnVoice$Town", "places", "I", false)
  | 1 => ("TurnVoice$Town", "roads", "I", false)
  | 2 => ("TurnVoice$Town", "begin", "I", false)
  | 3 => ("TurnVoice$Town", "goal", "I", false)
  | 4 => ("TurnVoice$Town", "nerves", "I", false)
  | 5 => ("TurnVoice$Town", "load", "I", false)
  | 6 => ("TurnVoice$Town", "from", "[I", true)
  | 7 => ("TurnVoice$Town", "to", "[I", true)
  | 8 => ("TurnVoice$Town", "minutes", "[I", true)
  | _ => ("TurnVoice$Town", "straight", "[I", true)
def tyX4 : Nat → FieldType := fun k => match k with
  | 0 => .int
  | 1 => .int
  | 2 => .int
  | 3 => .int
  | 4 => .int
  | 5 => .int
  | 6 => .array .int
  | 7 => .array .int
  | 8 => .array .int
  | _ => .array .int
abbrev wsX40 : List Cond := u_ws RX4 TX4 10
theorem nmX4 : ∀ a, a < 10 → ∀ b, b < 10 → a ≠ b → (TX4 a).2.1 ≠ (TX4 b).2.1 := by decide +kernel
theorem tyX4_ok : ∀ k, k < 10 → parseFieldDescriptor (TX4 k).2.2.1 = some (tyX4 k) := by decide +kernel
abbrev cX4_init : ByteArray := prog_6_method_1_code
def yX4_init : MethodName := ⟨RX4, "<init>", "()V"⟩
abbrev cX4_beAsAtFirst : ByteArray := prog_6_method_2_code
def yX4_beAsAtFirst : MethodName := ⟨RX4, "beAsAtFirst", "()V"⟩
abbrev cX4_addRoad : ByteArray := prog_6_method_3_code
def yX4_addRoad : MethodName := ⟨RX4, "addRoad", "(III)V"⟩
abbrev cX4_makeStraight : ByteArray := prog_6_method_4_code
def yX4_makeStraight : MethodName := ⟨RX4, "makeStraight", "(II)V"⟩
abbrev cX4_hasRoad : ByteArray := prog_6_method_5_code
def yX4_hasRoad : MethodName := ⟨RX4, "hasRoad", "(I)Z"⟩
abbrev cX4_hasPlace : ByteArray := prog_6_method_6_code
def yX4_hasPlace : MethodName := ⟨RX4, "hasPlace", "(I)Z"⟩
abbrev cX4_allRoads : ByteArray := prog_6_method_7_code
def yX4_allRoads : MethodName := ⟨RX4, "allRoads", "()I"⟩
abbrev cX4_meets : ByteArray := prog_6_method_8_code
def yX4_meets : MethodName := ⟨RX4, "meets", "(II)Z"⟩
abbrev cX4_otherEnd : ByteArray := prog_6_method_9_code
def yX4_otherEnd : MethodName := ⟨RX4, "otherEnd", "(II)I"⟩
abbrev cX4_roadsAt : ByteArray := prog_6_method_10_code
def yX4_roadsAt : MethodName := ⟨RX4, "roadsAt", "(I)I"⟩
abbrev cX4_isTurn : ByteArray := prog_6_method_11_code
def yX4_isTurn : MethodName := ⟨RX4, "isTurn", "(II)Z"⟩
abbrev cX4_nervesFor : ByteArray := prog_6_method_12_code
def yX4_nervesFor : MethodName := ⟨RX4, "nervesFor", "(II)I"⟩
def RX5 : String := "TurnVoice$Voice"
def TX5 : u_T := fun k => match k with
  | 0 => ("TurnVoice$Voice", "town", "LTurnVoice$Town;", false)
  | 1 => ("TurnVoice$Voice", "open", "I", false)
  | 2 => ("TurnVoice$Voice", "cost", "[I", true)
  | 3 => ("TurnVoice$Voice", "toGoal", "[I", true)
  | 4 => ("TurnVoice$Voice", "settled", "[Z", true)
  | 5 => ("TurnVoice$Voice", "times", "[I", true)
  | 6 => ("TurnVoice$Voice", "row", "[I", true)
  | 7 => ("TurnVoice$Voice", "rowLength", "I", false)
  | _ => ("TurnVoice$Voice", "rowTurns", "I", false)
def tyX5 : Nat → FieldType := fun k => match k with
  | 0 => .object "TurnVoice$Town"
  | 1 => .int
  | 2 => .array .int
  | 3 => .array .int
  | 4 => .array .boolean
  | 5 => .array .int
  | 6 => .array .int
  | 7 => .int
  | _ => .int
abbrev wsX50 : List Cond := u_ws RX5 TX5 9
theorem nmX5 : ∀ a, a < 9 → ∀ b, b < 9 → a ≠ b → (TX5 a).2.1 ≠ (TX5 b).2.1 := by decide +kernel
theorem tyX5_ok : ∀ k, k < 9 → parseFieldDescriptor (TX5 k).2.2.1 = some (tyX5 k) := by decide +kernel
abbrev cX5_init : ByteArray := prog_7_method_1_code
def yX5_init : MethodName := ⟨RX5, "<init>", "()V"⟩
abbrev cX5_look : ByteArray := prog_7_method_2_code
def yX5_look : MethodName := ⟨RX5, "look", "(LTurnVoice$Town;LTurnVoice$Present;)V"⟩
abbrev cX5_lookAtOpen : ByteArray := prog_7_method_3_code
def yX5_lookAtOpen : MethodName := ⟨RX5, "lookAtOpen", "(I)V"⟩
abbrev cX5_lookBehindRow : ByteArray := prog_7_method_4_code
def yX5_lookBehindRow : MethodName := ⟨RX5, "lookBehindRow", "(I)V"⟩
abbrev cX5_measure : ByteArray := prog_7_method_5_code
def yX5_measure : MethodName := ⟨RX5, "measure", "()V"⟩
abbrev cX5_nearestUnsettled : ByteArray := prog_7_method_6_code
def yX5_nearestUnsettled : MethodName := ⟨RX5, "nearestUnsettled", "(I)I"⟩
abbrev cX5_measureBefore : ByteArray := prog_7_method_7_code
def yX5_measureBefore : MethodName := ⟨RX5, "measureBefore", "(II)V"⟩
abbrev cX5_placeOf : ByteArray := prog_7_method_8_code
def yX5_placeOf : MethodName := ⟨RX5, "placeOf", "(I)I"⟩
abbrev cX5_minutesBy : ByteArray := prog_7_method_9_code
def yX5_minutesBy : MethodName := ⟨RX5, "minutesBy", "(III)I"⟩
abbrev cX5_firstRoad : ByteArray := prog_7_method_10_code
def yX5_firstRoad : MethodName := ⟨RX5, "firstRoad", "(II)I"⟩
abbrev cX5_minutesFrom : ByteArray := prog_7_method_11_code
def yX5_minutesFrom : MethodName := ⟨RX5, "minutesFrom", "(II)I"⟩
abbrev cX5_minutesWithLonger : ByteArray := prog_7_method_12_code
def yX5_minutesWithLonger : MethodName := ⟨RX5, "minutesWithLonger", "(III)I"⟩
abbrev cX5_follow : ByteArray := prog_7_method_13_code
def yX5_follow : MethodName := ⟨RX5, "follow", "(II)I"⟩
abbrev cX5_meetingsInRow : ByteArray := prog_7_method_14_code
def yX5_meetingsInRow : MethodName := ⟨RX5, "meetingsInRow", "()I"⟩
def RX6 : String := "TurnVoice"
def TX6 : u_T := fun k => match k with
  | 0 => ("TurnVoice", "reader", "LTurnVoice$Reader;", true)
  | 1 => ("TurnVoice", "map", "LTurnVoice$Town;", false)
  | 2 => ("TurnVoice", "draft", "LTurnVoice$Town;", false)
  | 3 => ("TurnVoice", "present", "LTurnVoice$Present;", true)
  | 4 => ("TurnVoice", "past", "LTurnVoice$Past;", true)
  | 5 => ("TurnVoice", "voice", "LTurnVoice$Voice;", true)
  | 6 => ("TurnVoice", "chances", "LTurnVoice$Odds;", true)
  | 7 => ("TurnVoice", "planned", "[I", true)
  | 8 => ("TurnVoice", "plannedCount", "I", false)
  | 9 => ("TurnVoice", "seenSteps", "[I", true)
  | 10 => ("TurnVoice", "seenPlaces", "[I", true)
  | 11 => ("TurnVoice", "seenCount", "I", false)
  | 12 => ("TurnVoice", "images", "[LTurnVoice$Present;", true)
  | 13 => ("TurnVoice", "imageKept", "[Z", true)
  | _ => ("TurnVoice", "traceSum", "J", false)
def tyX6 : Nat → FieldType := fun k => match k with
  | 0 => .object "TurnVoice$Reader"
  | 1 => .object "TurnVoice$Town"
  | 2 => .object "TurnVoice$Town"
  | 3 => .object "TurnVoice$Present"
  | 4 => .object "TurnVoice$Past"
  | 5 => .object "TurnVoice$Voice"
  | 6 => .object "TurnVoice$Odds"
  | 7 => .array .int
  | 8 => .int
  | 9 => .array .int
  | 10 => .array .int
  | 11 => .int
  | 12 => .array (.object "TurnVoice$Present")
  | 13 => .array .boolean
  | _ => .long
abbrev wsX60 : List Cond := u_ws RX6 TX6 15
theorem nmX6 : ∀ a, a < 15 → ∀ b, b < 15 → a ≠ b → (TX6 a).2.1 ≠ (TX6 b).2.1 := by decide +kernel
theorem tyX6_ok : ∀ k, k < 15 → parseFieldDescriptor (TX6 k).2.2.1 = some (tyX6 k) := by decide +kernel
abbrev cX6_init : ByteArray := prog_1_method_1_code
def yX6_init : MethodName := ⟨RX6, "<init>", "()V"⟩
abbrev cX6_type : ByteArray := prog_1_method_2_code
def yX6_type : MethodName := ⟨RX6, "type", "(I)I"⟩
abbrev cX6_clear : ByteArray := prog_1_method_3_code
def yX6_clear : MethodName := ⟨RX6, "clear", "()I"⟩
abbrev cX6_town : ByteArray := prog_1_method_4_code
def yX6_town : MethodName := ⟨RX6, "town", "()I"⟩
abbrev cX6_road : ByteArray := prog_1_method_5_code
def yX6_road : MethodName := ⟨RX6, "road", "(II)I"⟩
abbrev cX6_place : ByteArray := prog_1_method_6_code
def yX6_place : MethodName := ⟨RX6, "place", "(I)I"⟩
abbrev cX6_now : ByteArray := prog_1_method_7_code
def yX6_now : MethodName := ⟨RX6, "now", "(I)I"⟩
abbrev cX6_takes : ByteArray := prog_1_method_8_code
def yX6_takes : MethodName := ⟨RX6, "takes", "(I)I"⟩
abbrev cX6_jams : ByteArray := prog_1_method_9_code
def yX6_jams : MethodName := ⟨RX6, "jams", "(II)I"⟩
abbrev cX6_shuts : ByteArray := prog_1_method_10_code
def yX6_shuts : MethodName := ⟨RX6, "shuts", "(II)I"⟩
abbrev cX6_undo : ByteArray := prog_1_method_11_code
def yX6_undo : MethodName := ⟨RX6, "undo", "()I"⟩
abbrev cX6_way : ByteArray := prog_1_method_12_code
def yX6_way : MethodName := ⟨RX6, "way", "(I)I"⟩
abbrev cX6_round : ByteArray := prog_1_method_13_code
def yX6_round : MethodName := ⟨RX6, "round", "()I"⟩
abbrev cX6_on : ByteArray := prog_1_method_14_code
def yX6_on : MethodName := ⟨RX6, "on", "(I)I"⟩
abbrev cX6_worst : ByteArray := prog_1_method_15_code
def yX6_worst : MethodName := ⟨RX6, "worst", "(I)I"⟩
abbrev cX6_plans : ByteArray := prog_1_method_16_code
def yX6_plans : MethodName := ⟨RX6, "plans", "(I)I"⟩
abbrev cX6_drops : ByteArray := prog_1_method_17_code
def yX6_drops : MethodName := ⟨RX6, "drops", "()I"⟩
abbrev cX6_his : ByteArray := prog_1_method_18_code
def yX6_his : MethodName := ⟨RX6, "his", "(I)I"⟩
abbrev cX6_cars : ByteArray := prog_1_method_19_code
def yX6_cars : MethodName := ⟨RX6, "cars", "(II)I"⟩
abbrev cX6_tunnel : ByteArray := prog_1_method_20_code
def yX6_tunnel : MethodName := ⟨RX6, "tunnel", "(I)I"⟩
abbrev cX6_saw : ByteArray := prog_1_method_21_code
def yX6_saw : MethodName := ⟨RX6, "saw", "(II)I"⟩
abbrev cX6_forget : ByteArray := prog_1_method_22_code
def yX6_forget : MethodName := ⟨RX6, "forget", "()I"⟩
abbrev cX6_where : ByteArray := prog_1_method_23_code
def yX6_where : MethodName := ⟨RX6, "where", "(I)I"⟩
abbrev cX6_which : ByteArray := prog_1_method_24_code
def yX6_which : MethodName := ⟨RX6, "which", "(II)I"⟩
abbrev cX6_odds : ByteArray := prog_1_method_25_code
def yX6_odds : MethodName := ⟨RX6, "odds", "(III)J"⟩
abbrev cX6_rate : ByteArray := prog_1_method_26_code
def yX6_rate : MethodName := ⟨RX6, "rate", "(II)I"⟩
abbrev cX6_keep : ByteArray := prog_1_method_27_code
def yX6_keep : MethodName := ⟨RX6, "keep", "(I)I"⟩
abbrev cX6_back : ByteArray := prog_1_method_28_code
def yX6_back : MethodName := ⟨RX6, "back", "(I)I"⟩
abbrev cX6_count : ByteArray := prog_1_method_29_code
def yX6_count : MethodName := ⟨RX6, "count", "(I)I"⟩
abbrev cX6_trace : ByteArray := prog_1_method_30_code
def yX6_trace : MethodName := ⟨RX6, "trace", "()J"⟩
abbrev cX6_isWithin : ByteArray := prog_1_method_31_code
def yX6_isWithin : MethodName := ⟨RX6, "isWithin", "(III)Z"⟩
abbrev cX6_has : ByteArray := prog_1_method_32_code
def yX6_has : MethodName := ⟨RX6, "has", "(II)Z"⟩
abbrev cX6_beginAnew : ByteArray := prog_1_method_33_code
def yX6_beginAnew : MethodName := ⟨RX6, "beginAnew", "()V"⟩
abbrev cX6_longOf : ByteArray := prog_1_method_34_code
def yX6_longOf : MethodName := ⟨RX6, "longOf", "(I)I"⟩
abbrev cX6_openRoads : ByteArray := prog_1_method_35_code
def yX6_openRoads : MethodName := ⟨RX6, "openRoads", "()I"⟩
abbrev cX6_canTake : ByteArray := prog_1_method_36_code
def yX6_canTake : MethodName := ⟨RX6, "canTake", "(II)Z"⟩
abbrev cX6_minutesOfTaking : ByteArray := prog_1_method_37_code
def yX6_minutesOfTaking : MethodName := ⟨RX6, "minutesOfTaking", "(II)I"⟩
abbrev cX6_minutesOneByOne : ByteArray := prog_1_method_38_code
def yX6_minutesOneByOne : MethodName := ⟨RX6, "minutesOneByOne", "(II)I"⟩
abbrev cX6_minutesAlike : ByteArray := prog_1_method_39_code
def yX6_minutesAlike : MethodName := ⟨RX6, "minutesAlike", "(II)I"⟩
abbrev cX6_oneRoadOn : ByteArray := prog_1_method_40_code
def yX6_oneRoadOn : MethodName := ⟨RX6, "oneRoadOn", "(I)I"⟩
abbrev cX6_asSeen : ByteArray := prog_1_method_41_code
def yX6_asSeen : MethodName := ⟨RX6, "asSeen", "(II)I"⟩
abbrev cX6_ratedAs : ByteArray := prog_1_method_42_code
def yX6_ratedAs : MethodName := ⟨RX6, "ratedAs", "(II)I"⟩
def RX7 : String := "TurnVoiceModel"
def TX7 : u_T := fun k => match k with
  | 0 => ("TurnVoiceModel", "thrown", "I", false)
  | 1 => ("TurnVoiceModel", "trace", "J", false)
  | 2 => ("TurnVoiceModel", "text", "[I", true)
  | 3 => ("TurnVoiceModel", "typed", "I", false)
  | 4 => ("TurnVoiceModel", "next", "I", false)
  | 5 => ("TurnVoiceModel", "token", "I", false)
  | 6 => ("TurnVoiceModel", "place", "I", false)
  | 7 => ("TurnVoiceModel", "value", "I", false)
  | 8 => ("TurnVoiceModel", "fault", "I", false)
  | 9 => ("TurnVoiceModel", "many", "[I", true)
  | 10 => ("TurnVoiceModel", "told", "I", false)
  | 11 => ("TurnVoiceModel", "end", "[I", true)
  | 12 => ("TurnVoiceModel", "minutes", "[I", true)
  | 13 => ("TurnVoiceModel", "straight", "[I", true)
  | 14 => ("TurnVoiceModel", "s", "[I", true)
  | 15 => ("TurnVoiceModel", "kept", "[I", true)
  | 16 => ("TurnVoiceModel", "isKept", "[Z", true)
  | 17 => ("TurnVoiceModel", "undos", "[I", true)
  | 18 => ("TurnVoiceModel", "undoMany", "I", false)
  | 19 => ("TurnVoiceModel", "planned", "[I", true)
  | 20 => ("TurnVoiceModel", "planMany", "I", false)
  | 21 => ("TurnVoiceModel", "sawBehind", "[I", true)
  | 22 => ("TurnVoiceModel", "sawAt", "[I", true)
  | 23 => ("TurnVoiceModel", "sawMany", "I", false)
  | 24 => ("TurnVoiceModel", "length", "[I", true)
  | 25 => ("TurnVoiceModel", "open", "I", false)
  | 26 => ("TurnVoiceModel", "left", "[I", true)
  | 27 => ("TurnVoiceModel", "turned", "I", false)
  | 28 => ("TurnVoiceModel", "gone", "[I", true)
  | 29 => ("TurnVoiceModel", "ways", "[J", true)
  | _ => ("TurnVoiceModel", "others", "[J", true)
def tyX7 : Nat → FieldType := fun k => match k with
  | 0 => .int
  | 1 => .long
  | 2 => .array .int
  | 3 => .int
  | 4 => .int
  | 5 => .int
  | 6 => .int
  | 7 => .int
  | 8 => .int
  | 9 => .array .int
  | 10 => .int
  | 11 => .array .int
  | 12 => .array .int
  | 13 => .array .int
  | 14 => .array .int
  | 15 => .array .int
  | 16 => .array .boolean
  | 17 => .array .int
  | 18 => .int
  | 19 => .array .int
  | 20 => .int
  | 21 => .array .int
  | 22 => .array .int
  | 23 => .int
  | 24 => .array .int
  | 25 => .int
  | 26 => .array .int
  | 27 => .int
  | 28 => .array .int
  | 29 => .array .long
  | _ => .array .long
abbrev wsX70 : List Cond := u_ws RX7 TX7 31
theorem nmX7 : ∀ a, a < 31 → ∀ b, b < 31 → a ≠ b → (TX7 a).2.1 ≠ (TX7 b).2.1 := by decide +kernel
theorem tyX7_ok : ∀ k, k < 31 → parseFieldDescriptor (TX7 k).2.2.1 = some (tyX7 k) := by decide +kernel
abbrev cX7_init : ByteArray := prog_9_method_1_code
def yX7_init : MethodName := ⟨RX7, "<init>", "()V"⟩
abbrev cX7_in : ByteArray := prog_9_method_3_code
def yX7_in : MethodName := ⟨RX7, "in", "(III)Z"⟩
abbrev cX7_ones : ByteArray := prog_9_method_4_code
def yX7_ones : MethodName := ⟨RX7, "ones", "(I)I"⟩
abbrev cX7_type : ByteArray := prog_9_method_5_code
def yX7_type : MethodName := ⟨RX7, "type", "(I)I"⟩
abbrev cX7_clear : ByteArray := prog_9_method_6_code
def yX7_clear : MethodName := ⟨RX7, "clear", "()I"⟩
abbrev cX7_letterAt : ByteArray := prog_9_method_7_code
def yX7_letterAt : MethodName := ⟨RX7, "letterAt", "(I)I"⟩
abbrev cX7_isLetter : ByteArray := prog_9_method_8_code
def yX7_isLetter : MethodName := ⟨RX7, "isLetter", "(I)Z"⟩
abbrev cX7_advances : ByteArray := prog_9_method_9_code
def yX7_advances : MethodName := ⟨RX7, "advances", "()V"⟩
abbrev cX7_isWell : ByteArray := prog_9_method_10_code
def yX7_isWell : MethodName := ⟨RX7, "isWell", "()Z"⟩
abbrev cX7_takesToken : ByteArray := prog_9_method_11_code
def yX7_takesToken : MethodName := ⟨RX7, "takesToken", "(Z)I"⟩
abbrev cX7_number : ByteArray := prog_9_method_12_code
def yX7_number : MethodName := ⟨RX7, "number", "(II)I"⟩
abbrev cX7_unlike : ByteArray := prog_9_method_13_code
def yX7_unlike : MethodName := ⟨RX7, "unlike", "(II)I"⟩
abbrev cX7_begins : ByteArray := prog_9_method_14_code
def yX7_begins : MethodName := ⟨RX7, "begins", "()V"⟩
abbrev cX7_bitOf : ByteArray := prog_9_method_15_code
def yX7_bitOf : MethodName := ⟨RX7, "bitOf", "(I)I"⟩
abbrev cX7_mayBegin : ByteArray := prog_9_method_16_code
def yX7_mayBegin : MethodName := ⟨RX7, "mayBegin", "(I)Z"⟩
abbrev cX7_readsItem : ByteArray := prog_9_method_17_code
def yX7_readsItem : MethodName := ⟨RX7, "readsItem", "(I)V"⟩
abbrev cX7_town : ByteArray := prog_9_method_18_code
def yX7_town : MethodName := ⟨RX7, "town", "()I"⟩
abbrev cX7_settles : ByteArray := prog_9_method_19_code
def yX7_settles : MethodName := ⟨RX7, "settles", "()V"⟩
abbrev cX7_isRoad : ByteArray := prog_9_method_20_code
def yX7_isRoad : MethodName := ⟨RX7, "isRoad", "(I)Z"⟩
abbrev cX7_isPlace : ByteArray := prog_9_method_21_code
def yX7_isPlace : MethodName := ⟨RX7, "isPlace", "(I)Z"⟩
abbrev cX7_openNow : ByteArray := prog_9_method_22_code
def yX7_openNow : MethodName := ⟨RX7, "openNow", "()I"⟩
abbrev cX7_isAt : ByteArray := prog_9_method_23_code
def yX7_isAt : MethodName := ⟨RX7, "isAt", "(II)Z"⟩
abbrev cX7_otherEnd : ByteArray := prog_9_method_24_code
def yX7_otherEnd : MethodName := ⟨RX7, "otherEnd", "(II)I"⟩
abbrev cX7_road : ByteArray := prog_9_method_25_code
def yX7_road : MethodName := ⟨RX7, "road", "(II)I"⟩
abbrev cX7_roadsAt : ByteArray := prog_9_method_26_code
def yX7_roadsAt : MethodName := ⟨RX7, "roadsAt", "(II)I"⟩
abbrev cX7_place : ByteArray := prog_9_method_27_code
def yX7_place : MethodName := ⟨RX7, "place", "(I)I"⟩
abbrev cX7_now : ByteArray := prog_9_method_28_code
def yX7_now : MethodName := ⟨RX7, "now", "(I)I"⟩
abbrev cX7_notes : ByteArray := prog_9_method_29_code
def yX7_notes : MethodName := ⟨RX7, "notes", "()V"⟩
abbrev cX7_isTurn : ByteArray := prog_9_method_30_code
def yX7_isTurn : MethodName := ⟨RX7, "isTurn", "(II)Z"⟩
abbrev cX7_cost : ByteArray := prog_9_method_31_code
def yX7_cost : MethodName := ⟨RX7, "cost", "(II)I"⟩
abbrev cX7_asNow : ByteArray := prog_9_method_32_code
def yX7_asNow : MethodName := ⟨RX7, "asNow", "()V"⟩
abbrev cX7_takes : ByteArray := prog_9_method_33_code
def yX7_takes : MethodName := ⟨RX7, "takes", "(I)I"⟩
abbrev cX7_jams : ByteArray := prog_9_method_34_code
def yX7_jams : MethodName := ⟨RX7, "jams", "(II)I"⟩
abbrev cX7_shuts : ByteArray := prog_9_method_35_code
def yX7_shuts : MethodName := ⟨RX7, "shuts", "(II)I"⟩
abbrev cX7_undo : ByteArray := prog_9_method_36_code
def yX7_undo : MethodName := ⟨RX7, "undo", "()I"⟩
abbrev cX7_farFrom : ByteArray := prog_9_method_37_code
def yX7_farFrom : MethodName := ⟨RX7, "farFrom", "(II)I"⟩
abbrev cX7_onBy : ByteArray := prog_9_method_38_code
def yX7_onBy : MethodName := ⟨RX7, "onBy", "(III)I"⟩
abbrev cX7_measures : ByteArray := prog_9_method_39_code
def yX7_measures : MethodName := ⟨RX7, "measures", "()V"⟩
abbrev cX7_firstFrom : ByteArray := prog_9_method_40_code
def yX7_firstFrom : MethodName := ⟨RX7, "firstFrom", "(II)I"⟩
abbrev cX7_kthFrom : ByteArray := prog_9_method_41_code
def yX7_kthFrom : MethodName := ⟨RX7, "kthFrom", "(III)I"⟩
abbrev cX7_way : ByteArray := prog_9_method_42_code
def yX7_way : MethodName := ⟨RX7, "way", "(I)I"⟩
abbrev cX7_round : ByteArray := prog_9_method_43_code
def yX7_round : MethodName := ⟨RX7, "round", "()I"⟩
abbrev cX7_on : ByteArray := prog_9_method_44_code
def yX7_on : MethodName := ⟨RX7, "on", "(I)I"⟩
abbrev cX7_worst : ByteArray := prog_9_method_45_code
def yX7_worst : MethodName := ⟨RX7, "worst", "(I)I"⟩
abbrev cX7_plans : ByteArray := prog_9_method_46_code
def yX7_plans : MethodName := ⟨RX7, "plans", "(I)I"⟩
abbrev cX7_drops : ByteArray := prog_9_method_47_code
def yX7_drops : MethodName := ⟨RX7, "drops", "()I"⟩
abbrev cX7_his : ByteArray := prog_9_method_48_code
def yX7_his : MethodName := ⟨RX7, "his", "(I)I"⟩
abbrev cX7_cars : ByteArray := prog_9_method_49_code
def yX7_cars : MethodName := ⟨RX7, "cars", "(II)I"⟩
abbrev cX7_stepped : ByteArray := prog_9_method_50_code
def yX7_stepped : MethodName := ⟨RX7, "stepped", "(I)I"⟩
abbrev cX7_whereBehind : ByteArray := prog_9_method_51_code
def yX7_whereBehind : MethodName := ⟨RX7, "whereBehind", "(IZ)I"⟩
abbrev cX7_tunnel : ByteArray := prog_9_method_52_code
def yX7_tunnel : MethodName := ⟨RX7, "tunnel", "(I)I"⟩
abbrev cX7_saw : ByteArray := prog_9_method_53_code
def yX7_saw : MethodName := ⟨RX7, "saw", "(II)I"⟩
abbrev cX7_forget : ByteArray := prog_9_method_54_code
def yX7_forget : MethodName := ⟨RX7, "forget", "()I"⟩
abbrev cX7_where : ByteArray := prog_9_method_55_code
def yX7_where : MethodName := ⟨RX7, "where", "(I)I"⟩
abbrev cX7_which : ByteArray := prog_9_method_56_code
def yX7_which : MethodName := ⟨RX7, "which", "(II)I"⟩
abbrev cX7_gcd : ByteArray := prog_9_method_57_code
def yX7_gcd : MethodName := ⟨RX7, "gcd", "(JJ)J"⟩
abbrev cX7_odds : ByteArray := prog_9_method_58_code
def yX7_odds : MethodName := ⟨RX7, "odds", "(III)J"⟩
abbrev cX7_rate : ByteArray := prog_9_method_59_code
def yX7_rate : MethodName := ⟨RX7, "rate", "(II)I"⟩
abbrev cX7_keep : ByteArray := prog_9_method_60_code
def yX7_keep : MethodName := ⟨RX7, "keep", "(I)I"⟩
abbrev cX7_back : ByteArray := prog_9_method_61_code
def yX7_back : MethodName := ⟨RX7, "back", "(I)I"⟩
abbrev cX7_count : ByteArray := prog_9_method_62_code
def yX7_count : MethodName := ⟨RX7, "count", "(I)I"⟩
abbrev cX7_trace : ByteArray := prog_9_method_63_code
def yX7_trace : MethodName := ⟨RX7, "trace", "()J"⟩
def RJ6 : String := "java/lang/Integer"
def TJ6 : u_T := fun k => match k with
  | _ => ("", "", "", false)
def tyJ6 : Nat → FieldType := fun k => match k with
  | _ => .int
abbrev wsJ60 : List Cond := u_ws RJ6 TJ6 0
theorem nmJ6 : ∀ a, a < 0 → ∀ b, b < 0 → a ≠ b → (TJ6 a).2.1 ≠ (TJ6 b).2.1 := by decide +kernel
theorem tyJ6_ok : ∀ k, k < 0 → parseFieldDescriptor (TJ6 k).2.2.1 = some (tyJ6 k) := by decide +kernel
abbrev cJ6_bitCount_0f7a4 : ByteArray := prog_10_method_49_code
def yJ6_bitCount_0f7a4 : MethodName := ⟨RJ6, "bitCount", "(I)I"⟩
def RJ9 : String := "java/lang/Math"
def TJ9 : u_T := fun k => match k with
  | _ => ("", "", "", false)
def tyJ9 : Nat → FieldType := fun k => match k with
  | _ => .int
abbrev wsJ90 : List Cond := u_ws RJ9 TJ9 0
theorem nmJ9 : ∀ a, a < 0 → ∀ b, b < 0 → a ≠ b → (TJ9 a).2.1 ≠ (TJ9 b).2.1 := by decide +kernel
theorem tyJ9_ok : ∀ k, k < 0 → parseFieldDescriptor (TJ9 k).2.2.1 = some (tyJ9 k) := by decide +kernel
abbrev cJ9_min_7cf53 : ByteArray := prog_11_method_69_code
def yJ9_min_7cf53 : MethodName := ⟨RJ9, "min", "(II)I"⟩
def RJ10 : String := "java/lang/System"
def TJ10 : u_T := fun k => match k with
  | _ => ("", "", "", false)
def tyJ10 : Nat → FieldType := fun k => match k with
  | _ => .int
abbrev wsJ100 : List Cond := u_ws RJ10 TJ10 0
theorem nmJ10 : ∀ a, a < 0 → ∀ b, b < 0 → a ≠ b → (TJ10 a).2.1 ≠ (TJ10 b).2.1 := by decide +kernel
theorem tyJ10_ok : ∀ k, k < 0 → parseFieldDescriptor (TJ10 k).2.2.1 = some (tyJ10 k) := by decide +kernel
def RL : String := "TurnVoiceLaw"
abbrev cL_law : ByteArray := code
def yL_law : MethodName := ⟨RL, "law", "([I)Z"⟩
end
section
theorem dX0_init_0 : decode cX0_init 0 = .ok (.aload_n 0, 1) := by decide +kernel
theorem dX0_init_1 : decode cX0_init 1 = .ok (.invokespecial 3, 3) := by decide +kernel
theorem dX0_init_4 : decode cX0_init 4 = .ok (.aload_n 0, 1) := by decide +kernel
theorem dX0_init_5 : decode cX0_init 5 = .ok (.lconst 1, 1) := by decide +kernel
theorem dX0_init_6 : decode cX0_init 6 = .ok (.putfield 9, 3) := by decide +kernel
theorem dX0_init_9 : decode cX0_init 9 = .ok (.aload_n 0, 1) := by decide +kernel
theorem dX0_init_10 : decode cX0_init 10 = .ok (.bipush 8, 2) := by decide +kernel
theorem dX0_init_12 : decode cX0_init 12 = .ok (.newarray .long, 2) := by decide +kernel
theorem dX0_init_14 : decode cX0_init 14 = .ok (.putfield 15, 3) := by decide +kernel
theorem dX0_init_17 : decode cX0_init 17 = .ok (.aload_n 0, 1) := by decide +kernel
theorem dX0_init_18 : decode cX0_init 18 = .ok (.bipush 8, 2) := by decide +kernel
theorem dX0_init_20 : decode cX0_init 20 = .ok (.newarray .long, 2) := by decide +kernel
theorem dX0_init_22 : decode cX0_init 22 = .ok (.putfield 19, 3) := by decide +kernel
theorem dX0_init_25 : decode cX0_init 25 = .ok (.aload_n 0, 1) := by decide +kernel
theorem dX0_init_26 : decode cX0_init 26 = .ok (.bipush 8, 2) := by decide +kernel
theorem dX0_init_28 : decode cX0_init 28 = .ok (.newarray .int, 2) := by decide +kernel
theorem dX0_init_30 : decode cX0_init 30 = .ok (.putfield 22, 3) := by decide +kernel
theorem dX0_init_33 : decode cX0_init 33 = .ok (.return_, 1) := by decide +kernel
theorem dX0_drive_0 : decode cX0_drive 0 = .ok (.iconst 0, 1) := by decide +kernel
theorem dX0_drive_1 : decode cX0_drive 1 = .ok (.istore 5, 2) := by decide +kernel
theorem dX0_drive_3 : decode cX0_drive 3 = .ok (.iload 5, 2) := by decide +kernel
theorem dX0_drive_5 : decode cX0_drive 5 = .ok (.bipush 8, 2) := by decide +kernel
theorem dX0_drive_7 : decode cX0_drive 7 = .ok (.if_icmp .ge 55, 3) := by decide +kernel
theorem dX0_drive_10 : decode cX0_drive 10 = .ok (.aload_n 0, 1) := by decide +kernel
theorem dX0_drive_11 : decode cX0_drive 11 = .ok (.getfield 22, 3) := by decide +kernel
theorem dX0_drive_14 : decode cX0_drive 14 = .ok (.iload 5, 2) := by decide +kernel
theorem dX0_drive_16 : decode cX0_drive 16 = .ok (.iload 5, 2) := by decide +kernel
theorem dX0_drive_18 : decode cX0_drive 18 = .ok (.aload_n 1, 1) := by decide +kernel
theorem dX0_drive_19 : decode cX0_drive 19 = .ok (.getfield 26, 3) := by decide +kernel
theorem dX0_drive_22 : decode cX0_drive 22 = .ok (.if_icmp .ge 14, 3) := by decide +kernel
theorem dX0_drive_25 : decode cX0_drive 25 = .ok (.aload_n 1, 1) := by decide +kernel
theorem dX0_drive_26 : decode cX0_drive 26 = .ok (.iload 5, 2) := by decide +kernel
theorem dX0_drive_28 : decode cX0_drive 28 = .ok (.invokevirtual 32, 3) := by decide +kernel
theorem dX0_drive_31 : decode cX0_drive 31 = .ok (.iload_n 2, 1) := by decide +kernel
theorem dX0_drive_32 : decode cX0_drive 32 = .ok (.iand, 1) := by decide +kernel
theorem dX0_drive_33 : decode cX0_drive 33 = .ok (.goto 4, 3) := by decide +kernel
theorem dX0_drive_36 : decode cX0_drive 36 = .ok (.iconst 0, 1) := by decide +kernel
theorem dX0_drive_37 : decode cX0_drive 37 = .ok (.iastore, 1) := by decide +kernel
theorem dX0_drive_38 : decode cX0_drive 38 = .ok (.aload_n 0, 1) := by decide +kernel
theorem dX0_drive_39 : decode cX0_drive 39 = .ok (.getfield 15, 3) := by decide +kernel
theorem dX0_drive_42 : decode cX0_drive 42 = .ok (.iload 5, 2) := by decide +kernel
theorem dX0_drive_44 : decode cX0_drive 44 = .ok (.iload 5, 2) := by decide +kernel
theorem dX0_drive_46 : decode cX0_drive 46 = .ok (.iload_n 3, 1) := by decide +kernel
theorem dX0_drive_47 : decode cX0_drive 47 = .ok (.if_icmp .ne 7, 3) := by decide +kernel
theorem dX0_drive_50 : decode cX0_drive 50 = .ok (.lconst 1, 1) := by decide +kernel
theorem dX0_drive_51 : decode cX0_drive 51 = .ok (.goto 4, 3) := by decide +kernel
theorem dX0_drive_54 : decode cX0_drive 54 = .ok (.lconst 0, 1) := by decide +kernel
theorem dX0_drive_55 : decode cX0_drive 55 = .ok (.lastore, 1) := by decide +kernel
theorem dX0_drive_56 : decode cX0_drive 56 = .ok (.iinc 5 1, 3) := by decide +kernel
theorem dX0_drive_59 : decode cX0_drive 59 = .ok (.goto (-56), 3) := by decide +kernel
theorem dX0_drive_62 : decode cX0_drive 62 = .ok (.aload_n 0, 1) := by decide +kernel
theorem dX0_drive_63 : decode cX0_drive 63 = .ok (.invokevirtual 35, 3) := by decide +kernel
theorem dX0_drive_66 : decode cX0_drive 66 = .ok (.lstore 5, 2) := by decide +kernel
theorem dX0_drive_68 : decode cX0_drive 68 = .ok (.aload_n 0, 1) := by decide +kernel
theorem dX0_drive_69 : decode cX0_drive 69 = .ok (.lconst 1, 1) := by decide +kernel
theorem dX0_drive_70 : decode cX0_drive 70 = .ok (.putfield 9, 3) := by decide +kernel
theorem dX0_drive_73 : decode cX0_drive 73 = .ok (.iconst 0, 1) := by decide +kernel
theorem dX0_drive_74 : decode cX0_drive 74 = .ok (.istore 7, 2) := by decide +kernel
theorem dX0_drive_76 : decode cX0_drive 76 = .ok (.iload 7, 2) := by decide +kernel
theorem dX0_drive_78 : decode cX0_drive 78 = .ok (.iload 4, 2) := by decide +kernel
theorem dX0_drive_80 : decode cX0_drive 80 = .ok (.if_icmp .ge 27, 3) := by decide +kernel
theorem dX0_drive_83 : decode cX0_drive 83 = .ok (.aload_n 0, 1) := by decide +kernel
theorem dX0_drive_84 : decode cX0_drive 84 = .ok (.aload_n 1, 1) := by decide +kernel
theorem dX0_drive_85 : decode cX0_drive 85 = .ok (.lload 5, 2) := by decide +kernel
theorem dX0_drive_87 : decode cX0_drive 87 = .ok (.invokevirtual 39, 3) := by decide +kernel
theorem dX0_drive_90 : decode cX0_drive 90 = .ok (.aload_n 0, 1) := by decide +kernel
theorem dX0_drive_91 : decode cX0_drive 91 = .ok (.dup, 1) := by decide +kernel
theorem dX0_drive_92 : decode cX0_drive 92 = .ok (.getfield 9, 3) := by decide +kernel
theorem dX0_drive_95 : decode cX0_drive 95 = .ok (.lload 5, 2) := by decide +kernel
theorem dX0_drive_97 : decode cX0_drive 97 = .ok (.lmul, 1) := by decide +kernel
theorem dX0_drive_98 : decode cX0_drive 98 = .ok (.putfield 9, 3) := by decide +kernel
theorem dX0_drive_101 : decode cX0_drive 101 = .ok (.iinc 7 1, 3) := by decide +kernel
theorem dX0_drive_104 : decode cX0_drive 104 = .ok (.goto (-28), 3) := by decide +kernel
theorem dX0_drive_107 : decode cX0_drive 107 = .ok (.return_, 1) := by decide +kernel
theorem dX0_commonUnit_0 : decode cX0_commonUnit 0 = .ok (.lconst 1, 1) := by decide +kernel
theorem dX0_commonUnit_1 : decode cX0_commonUnit 1 = .ok (.lstore_n 1, 1) := by decide +kernel
theorem dX0_commonUnit_2 : decode cX0_commonUnit 2 = .ok (.iconst 0, 1) := by decide +kernel
theorem dX0_commonUnit_3 : decode cX0_commonUnit 3 = .ok (.istore_n 3, 1) := by decide +kernel
theorem dX0_commonUnit_4 : decode cX0_commonUnit 4 = .ok (.iload_n 3, 1) := by decide +kernel
theorem dX0_commonUnit_5 : decode cX0_commonUnit 5 = .ok (.bipush 8, 2) := by decide +kernel
theorem dX0_commonUnit_7 : decode cX0_commonUnit 7 = .ok (.if_icmp .ge 50, 3) := by decide +kernel
theorem dX0_commonUnit_10 : decode cX0_commonUnit 10 = .ok (.aload_n 0, 1) := by decide +kernel
theorem dX0_commonUnit_11 : decode cX0_commonUnit 11 = .ok (.getfield 22, 3) := by decide +kernel
theorem dX0_commonUnit_14 : decode cX0_commonUnit 14 = .ok (.iload_n 3, 1) := by decide +kernel
theorem dX0_commonUnit_15 : decode cX0_commonUnit 15 = .ok (.iaload, 1) := by decide +kernel
theorem dX0_commonUnit_16 : decode cX0_commonUnit 16 = .ok (.invokestatic 43, 3) := by decide +kernel
theorem dX0_commonUnit_19 : decode cX0_commonUnit 19 = .ok (.istore 4, 2) := by decide +kernel
theorem dX0_commonUnit_21 : decode cX0_commonUnit 21 = .ok (.iload 4, 2) := by decide +kernel
theorem dX0_commonUnit_23 : decode cX0_commonUnit 23 = .ok (.ifCond .le 28, 3) := by decide +kernel
theorem dX0_commonUnit_26 : decode cX0_commonUnit 26 = .ok (.lload_n 1, 1) := by decide +kernel
theorem dX0_commonUnit_27 : decode cX0_commonUnit 27 = .ok (.iload 4, 2) := by decide +kernel
theorem dX0_commonUnit_29 : decode cX0_commonUnit 29 = .ok (.i2l, 1) := by decide +kernel
theorem dX0_commonUnit_30 : decode cX0_commonUnit 30 = .ok (.invokestatic 48, 3) := by decide +kernel
theorem dX0_commonUnit_33 : decode cX0_commonUnit 33 = .ok (.lstore 5, 2) := by decide +kernel
theorem dX0_commonUnit_35 : decode cX0_commonUnit 35 = .ok (.lload 5, 2) := by decide +kernel
theorem dX0_commonUnit_37 : decode cX0_commonUnit 37 = .ok (.lconst 0, 1) := by decide +kernel
theorem dX0_commonUnit_38 : decode cX0_commonUnit 38 = .ok (.lcmp, 1) := by decide +kernel
theorem dX0_commonUnit_39 : decode cX0_commonUnit 39 = .ok (.ifCond .le 12, 3) := by decide +kernel
theorem dX0_commonUnit_42 : decode cX0_commonUnit 42 = .ok (.lload_n 1, 1) := by decide +kernel
theorem dX0_commonUnit_43 : decode cX0_commonUnit 43 = .ok (.lload 5, 2) := by decide +kernel
theorem dX0_commonUnit_45 : decode cX0_commonUnit 45 = .ok (.ldiv, 1) := by decide +kernel
theorem dX0_commonUnit_46 : decode cX0_commonUnit 46 = .ok (.iload 4, 2) := by decide +kernel
theorem dX0_commonUnit_48 : decode cX0_commonUnit 48 = .ok (.i2l, 1) := by decide +kernel
theorem dX0_commonUnit_49 : decode cX0_commonUnit 49 = .ok (.lmul, 1) := by decide +kernel
theorem dX0_commonUnit_50 : decode cX0_commonUnit 50 = .ok (.lstore_n 1, 1) := by decide +kernel
theorem dX0_commonUnit_51 : decode cX0_commonUnit 51 = .ok (.iinc 3 1, 3) := by decide +kernel
theorem dX0_commonUnit_54 : decode cX0_commonUnit 54 = .ok (.goto (-50), 3) := by decide +kernel
theorem dX0_commonUnit_57 : decode cX0_commonUnit 57 = .ok (.lload_n 1, 1) := by decide +kernel
theorem dX0_commonUnit_58 : decode cX0_commonUnit 58 = .ok (.lreturn, 1) := by decide +kernel
theorem dX0_takeAnyRoad_0 : decode cX0_takeAnyRoad 0 = .ok (.iconst 0, 1) := by decide +kernel
theorem dX0_takeAnyRoad_1 : decode cX0_takeAnyRoad 1 = .ok (.istore 4, 2) := by decide +kernel
theorem dX0_takeAnyRoad_3 : decode cX0_takeAnyRoad 3 = .ok (.iload 4, 2) := by decide +kernel
theorem dX0_takeAnyRoad_5 : decode cX0_takeAnyRoad 5 = .ok (.bipush 8, 2) := by decide +kernel
theorem dX0_takeAnyRoad_7 : decode cX0_takeAnyRoad 7 = .ok (.if_icmp .ge 17, 3) := by decide +kernel
theorem dX0_takeAnyRoad_10 : decode cX0_takeAnyRoad 10 = .ok (.aload_n 0, 1) := by decide +kernel
theorem dX0_takeAnyRoad_11 : decode cX0_takeAnyRoad 11 = .ok (.getfield 19, 3) := by decide +kernel
theorem dX0_takeAnyRoad_14 : decode cX0_takeAnyRoad 14 = .ok (.iload 4, 2) := by decide +kernel
theorem dX0_takeAnyRoad_16 : decode cX0_takeAnyRoad 16 = .ok (.lconst 0, 1) := by decide +kernel
theorem dX0_takeAnyRoad_17 : decode cX0_takeAnyRoad 17 = .ok (.lastore, 1) := by decide +kernel
theorem dX0_takeAnyRoad_18 : decode cX0_takeAnyRoad 18 = .ok (.iinc 4 1, 3) := by decide +kernel
theorem dX0_takeAnyRoad_21 : decode cX0_takeAnyRoad 21 = .ok (.goto (-18), 3) := by decide +kernel
theorem dX0_takeAnyRoad_24 : decode cX0_takeAnyRoad 24 = .ok (.iconst 0, 1) := by decide +kernel
theorem dX0_takeAnyRoad_25 : decode cX0_takeAnyRoad 25 = .ok (.istore 4, 2) := by decide +kernel
theorem dX0_takeAnyRoad_27 : decode cX0_takeAnyRoad 27 = .ok (.iload 4, 2) := by decide +kernel
theorem dX0_takeAnyRoad_29 : decode cX0_takeAnyRoad 29 = .ok (.bipush 8, 2) := by decide +kernel
theorem dX0_takeAnyRoad_31 : decode cX0_takeAnyRoad 31 = .ok (.if_icmp .ge 68, 3) := by decide +kernel
theorem dX0_takeAnyRoad_34 : decode cX0_takeAnyRoad 34 = .ok (.aload_n 0, 1) := by decide +kernel
theorem dX0_takeAnyRoad_35 : decode cX0_takeAnyRoad 35 = .ok (.getfield 22, 3) := by decide +kernel
theorem dX0_takeAnyRoad_38 : decode cX0_takeAnyRoad 38 = .ok (.iload 4, 2) := by decide +kernel
theorem dX0_takeAnyRoad_40 : decode cX0_takeAnyRoad 40 = .ok (.iaload, 1) := by decide +kernel
theorem dX0_takeAnyRoad_41 : decode cX0_takeAnyRoad 41 = .ok (.invokestatic 43, 3) := by decide +kernel
theorem dX0_takeAnyRoad_44 : decode cX0_takeAnyRoad 44 = .ok (.istore 5, 2) := by decide +kernel
theorem dX0_takeAnyRoad_46 : decode cX0_takeAnyRoad 46 = .ok (.iload 5, 2) := by decide +kernel
theorem dX0_takeAnyRoad_48 : decode cX0_takeAnyRoad 48 = .ok (.ifCond .ne 25, 3) := by decide +kernel
theorem dX0_takeAnyRoad_51 : decode cX0_takeAnyRoad 51 = .ok (.aload_n 0, 1) := by decide +kernel
theorem dX0_takeAnyRoad_52 : decode cX0_takeAnyRoad 52 = .ok (.getfield 19, 3) := by decide +kernel
theorem dX0_takeAnyRoad_55 : decode cX0_takeAnyRoad 55 = .ok (.iload 4, 2) := by decide +kernel
theorem dX0_takeAnyRoad_57 : decode cX0_takeAnyRoad 57 = .ok (.dup2, 1) := by decide +kernel
theorem dX0_takeAnyRoad_58 : decode cX0_takeAnyRoad 58 = .ok (.laload, 1) := by decide +kernel
theorem dX0_takeAnyRoad_59 : decode cX0_takeAnyRoad 59 = .ok (.aload_n 0, 1) := by decide +kernel
theorem dX0_takeAnyRoad_60 : decode cX0_takeAnyRoad 60 = .ok (.getfield 15, 3) := by decide +kernel
theorem dX0_takeAnyRoad_63 : decode cX0_takeAnyRoad 63 = .ok (.iload 4, 2) := by decide +kernel
theorem dX0_takeAnyRoad_65 : decode cX0_takeAnyRoad 65 = .ok (.laload, 1) := by decide +kernel
theorem dX0_takeAnyRoad_66 : decode cX0_takeAnyRoad 66 = .ok (.lload_n 2, 1) := by decide +kernel
theorem dX0_takeAnyRoad_67 : decode cX0_takeAnyRoad 67 = .ok (.lmul, 1) := by decide +kernel
theorem dX0_takeAnyRoad_68 : decode cX0_takeAnyRoad 68 = .ok (.ladd, 1) := by decide +kernel
theorem dX0_takeAnyRoad_69 : decode cX0_takeAnyRoad 69 = .ok (.lastore, 1) := by decide +kernel
theorem dX0_takeAnyRoad_70 : decode cX0_takeAnyRoad 70 = .ok (.goto 23, 3) := by decide +kernel
theorem dX0_takeAnyRoad_73 : decode cX0_takeAnyRoad 73 = .ok (.aload_n 0, 1) := by decide +kernel
theorem dX0_takeAnyRoad_74 : decode cX0_takeAnyRoad 74 = .ok (.aload_n 1, 1) := by decide +kernel
theorem dX0_takeAnyRoad_75 : decode cX0_takeAnyRoad 75 = .ok (.iload 4, 2) := by decide +kernel
theorem dX0_takeAnyRoad_77 : decode cX0_takeAnyRoad 77 = .ok (.aload_n 0, 1) := by decide +kernel
theorem dX0_takeAnyRoad_78 : decode cX0_takeAnyRoad 78 = .ok (.getfield 15, 3) := by decide +kernel
theorem dX0_takeAnyRoad_81 : decode cX0_takeAnyRoad 81 = .ok (.iload 4, 2) := by decide +kernel
theorem dX0_takeAnyRoad_83 : decode cX0_takeAnyRoad 83 = .ok (.laload, 1) := by decide +kernel
theorem dX0_takeAnyRoad_84 : decode cX0_takeAnyRoad 84 = .ok (.lload_n 2, 1) := by decide +kernel
theorem dX0_takeAnyRoad_85 : decode cX0_takeAnyRoad 85 = .ok (.iload 5, 2) := by decide +kernel
theorem dX0_takeAnyRoad_87 : decode cX0_takeAnyRoad 87 = .ok (.i2l, 1) := by decide +kernel
theorem dX0_takeAnyRoad_88 : decode cX0_takeAnyRoad 88 = .ok (.ldiv, 1) := by decide +kernel
theorem dX0_takeAnyRoad_89 : decode cX0_takeAnyRoad 89 = .ok (.lmul, 1) := by decide +kernel
theorem dX0_takeAnyRoad_90 : decode cX0_takeAnyRoad 90 = .ok (.invokevirtual 52, 3) := by decide +kernel
theorem dX0_takeAnyRoad_93 : decode cX0_takeAnyRoad 93 = .ok (.iinc 4 1, 3) := by decide +kernel
theorem dX0_takeAnyRoad_96 : decode cX0_takeAnyRoad 96 = .ok (.goto (-69), 3) := by decide +kernel
theorem dX0_takeAnyRoad_99 : decode cX0_takeAnyRoad 99 = .ok (.aload_n 0, 1) := by decide +kernel
theorem dX0_takeAnyRoad_100 : decode cX0_takeAnyRoad 100 = .ok (.getfield 19, 3) := by decide +kernel
theorem dX0_takeAnyRoad_103 : decode cX0_takeAnyRoad 103 = .ok (.iconst 0, 1) := by decide +kernel
theorem dX0_takeAnyRoad_104 : decode cX0_takeAnyRoad 104 = .ok (.aload_n 0, 1) := by decide +kernel
theorem dX0_takeAnyRoad_105 : decode cX0_takeAnyRoad 105 = .ok (.getfield 15, 3) := by decide +kernel
theorem dX0_takeAnyRoad_108 : decode cX0_takeAnyRoad 108 = .ok (.iconst 0, 1) := by decide +kernel
theorem dX0_takeAnyRoad_109 : decode cX0_takeAnyRoad 109 = .ok (.bipush 8, 2) := by decide +kernel
theorem dX0_takeAnyRoad_111 : decode cX0_takeAnyRoad 111 = .ok (.invokestatic 56, 3) := by decide +kernel
theorem dX0_takeAnyRoad_114 : decode cX0_takeAnyRoad 114 = .ok (.return_, 1) := by decide +kernel
theorem dX0_spread_0 : decode cX0_spread 0 = .ok (.iconst 0, 1) := by decide +kernel
theorem dX0_spread_1 : decode cX0_spread 1 = .ok (.istore 5, 2) := by decide +kernel
theorem dX0_spread_3 : decode cX0_spread 3 = .ok (.iload 5, 2) := by decide +kernel
theorem dX0_spread_5 : decode cX0_spread 5 = .ok (.aload_n 1, 1) := by decide +kernel
theorem dX0_spread_6 : decode cX0_spread 6 = .ok (.getfield 62, 3) := by decide +kernel
theorem dX0_spread_9 : decode cX0_spread 9 = .ok (.if_icmp .ge 39, 3) := by decide +kernel
theorem dX0_spread_12 : decode cX0_spread 12 = .ok (.aload_n 0, 1) := by decide +kernel
theorem dX0_spread_13 : decode cX0_spread 13 = .ok (.getfield 22, 3) := by decide +kernel
theorem dX0_spread_16 : decode cX0_spread 16 = .ok (.iload_n 2, 1) := by decide +kernel
theorem dX0_spread_17 : decode cX0_spread 17 = .ok (.iaload, 1) := by decide +kernel
theorem dX0_spread_18 : decode cX0_spread 18 = .ok (.iload 5, 2) := by decide +kernel
theorem dX0_spread_20 : decode cX0_spread 20 = .ok (.invokestatic 65, 3) := by decide +kernel
theorem dX0_spread_23 : decode cX0_spread 23 = .ok (.ifCond .eq 19, 3) := by decide +kernel
theorem dX0_spread_26 : decode cX0_spread 26 = .ok (.aload_n 0, 1) := by decide +kernel
theorem dX0_spread_27 : decode cX0_spread 27 = .ok (.getfield 19, 3) := by decide +kernel
theorem dX0_spread_30 : decode cX0_spread 30 = .ok (.aload_n 1, 1) := by decide +kernel
theorem dX0_spread_31 : decode cX0_spread 31 = .ok (.iload 5, 2) := by decide +kernel
theorem dX0_spread_33 : decode cX0_spread 33 = .ok (.iload_n 2, 1) := by decide +kernel
theorem dX0_spread_34 : decode cX0_spread 34 = .ok (.invokevirtual 69, 3) := by decide +kernel
theorem dX0_spread_37 : decode cX0_spread 37 = .ok (.dup2, 1) := by decide +kernel
theorem dX0_spread_38 : decode cX0_spread 38 = .ok (.laload, 1) := by decide +kernel
theorem dX0_spread_39 : decode cX0_spread 39 = .ok (.lload_n 3, 1) := by decide +kernel
theorem dX0_spread_40 : decode cX0_spread 40 = .ok (.ladd, 1) := by decide +kernel
theorem dX0_spread_41 : decode cX0_spread 41 = .ok (.lastore, 1) := by decide +kernel
theorem dX0_spread_42 : decode cX0_spread 42 = .ok (.iinc 5 1, 3) := by decide +kernel
theorem dX0_spread_45 : decode cX0_spread 45 = .ok (.goto (-42), 3) := by decide +kernel
theorem dX0_spread_48 : decode cX0_spread 48 = .ok (.return_, 1) := by decide +kernel
theorem dX0_upper_0 : decode cX0_upper 0 = .ok (.aload_n 0, 1) := by decide +kernel
theorem dX0_upper_1 : decode cX0_upper 1 = .ok (.aload_n 0, 1) := by decide +kernel
theorem dX0_upper_2 : decode cX0_upper 2 = .ok (.getfield 15, 3) := by decide +kernel
theorem dX0_upper_5 : decode cX0_upper 5 = .ok (.iload_n 1, 1) := by decide +kernel
theorem dX0_upper_6 : decode cX0_upper 6 = .ok (.laload, 1) := by decide +kernel
theorem dX0_upper_7 : decode cX0_upper 7 = .ok (.iload_n 1, 1) := by decide +kernel
theorem dX0_upper_8 : decode cX0_upper 8 = .ok (.invokevirtual 73, 3) := by decide +kernel
theorem dX0_upper_11 : decode cX0_upper 11 = .ok (.lreturn, 1) := by decide +kernel
theorem dX0_lower_0 : decode cX0_lower 0 = .ok (.aload_n 0, 1) := by decide +kernel
theorem dX0_lower_1 : decode cX0_lower 1 = .ok (.aload_n 0, 1) := by decide +kernel
theorem dX0_lower_2 : decode cX0_lower 2 = .ok (.getfield 9, 3) := by decide +kernel
theorem dX0_lower_5 : decode cX0_lower 5 = .ok (.iload_n 1, 1) := by decide +kernel
theorem dX0_lower_6 : decode cX0_lower 6 = .ok (.invokevirtual 73, 3) := by decide +kernel
theorem dX0_lower_9 : decode cX0_lower 9 = .ok (.lreturn, 1) := by decide +kernel
theorem dX0_inLeastTerms_0 : decode cX0_inLeastTerms 0 = .ok (.aload_n 0, 1) := by decide +kernel
theorem dX0_inLeastTerms_1 : decode cX0_inLeastTerms 1 = .ok (.getfield 9, 3) := by decide +kernel
theorem dX0_inLeastTerms_4 : decode cX0_inLeastTerms 4 = .ok (.aload_n 0, 1) := by decide +kernel
theorem dX0_inLeastTerms_5 : decode cX0_inLeastTerms 5 = .ok (.getfield 15, 3) := by decide +kernel
theorem dX0_inLeastTerms_8 : decode cX0_inLeastTerms 8 = .ok (.iload_n 3, 1) := by decide +kernel
theorem dX0_inLeastTerms_9 : decode cX0_inLeastTerms 9 = .ok (.laload, 1) := by decide +kernel
theorem dX0_inLeastTerms_10 : decode cX0_inLeastTerms 10 = .ok (.invokestatic 48, 3) := by decide +kernel
theorem dX0_inLeastTerms_13 : decode cX0_inLeastTerms 13 = .ok (.lstore 4, 2) := by decide +kernel
theorem dX0_inLeastTerms_15 : decode cX0_inLeastTerms 15 = .ok (.lload 4, 2) := by decide +kernel
theorem dX0_inLeastTerms_17 : decode cX0_inLeastTerms 17 = .ok (.lconst 0, 1) := by decide +kernel
theorem dX0_inLeastTerms_18 : decode cX0_inLeastTerms 18 = .ok (.lcmp, 1) := by decide +kernel
theorem dX0_inLeastTerms_19 : decode cX0_inLeastTerms 19 = .ok (.ifCond .le 10, 3) := by decide +kernel
theorem dX0_inLeastTerms_22 : decode cX0_inLeastTerms 22 = .ok (.lload_n 1, 1) := by decide +kernel
theorem dX0_inLeastTerms_23 : decode cX0_inLeastTerms 23 = .ok (.lload 4, 2) := by decide +kernel
theorem dX0_inLeastTerms_25 : decode cX0_inLeastTerms 25 = .ok (.ldiv, 1) := by decide +kernel
theorem dX0_inLeastTerms_26 : decode cX0_inLeastTerms 26 = .ok (.goto 4, 3) := by decide +kernel
theorem dX0_inLeastTerms_29 : decode cX0_inLeastTerms 29 = .ok (.lload_n 1, 1) := by decide +kernel
theorem dX0_inLeastTerms_30 : decode cX0_inLeastTerms 30 = .ok (.lreturn, 1) := by decide +kernel
theorem dX0_commonDivisor_0 : decode cX0_commonDivisor 0 = .ok (.lload_n 0, 1) := by decide +kernel
theorem dX0_commonDivisor_1 : decode cX0_commonDivisor 1 = .ok (.lstore 4, 2) := by decide +kernel
theorem dX0_commonDivisor_3 : decode cX0_commonDivisor 3 = .ok (.lload_n 2, 1) := by decide +kernel
theorem dX0_commonDivisor_4 : decode cX0_commonDivisor 4 = .ok (.lstore 6, 2) := by decide +kernel
theorem dX0_commonDivisor_6 : decode cX0_commonDivisor 6 = .ok (.iconst 0, 1) := by decide +kernel
theorem dX0_commonDivisor_7 : decode cX0_commonDivisor 7 = .ok (.istore 8, 2) := by decide +kernel
theorem dX0_commonDivisor_9 : decode cX0_commonDivisor 9 = .ok (.iload 8, 2) := by decide +kernel
theorem dX0_commonDivisor_11 : decode cX0_commonDivisor 11 = .ok (.bipush 100, 2) := by decide +kernel
theorem dX0_commonDivisor_13 : decode cX0_commonDivisor 13 = .ok (.if_icmp .ge 31, 3) := by decide +kernel
theorem dX0_commonDivisor_16 : decode cX0_commonDivisor 16 = .ok (.lload 6, 2) := by decide +kernel
theorem dX0_commonDivisor_18 : decode cX0_commonDivisor 18 = .ok (.lconst 0, 1) := by decide +kernel
theorem dX0_commonDivisor_19 : decode cX0_commonDivisor 19 = .ok (.lcmp, 1) := by decide +kernel
theorem dX0_commonDivisor_20 : decode cX0_commonDivisor 20 = .ok (.ifCond .eq 24, 3) := by decide +kernel
theorem dX0_commonDivisor_23 : decode cX0_commonDivisor 23 = .ok (.lload 4, 2) := by decide +kernel
theorem dX0_commonDivisor_25 : decode cX0_commonDivisor 25 = .ok (.lload 6, 2) := by decide +kernel
theorem dX0_commonDivisor_27 : decode cX0_commonDivisor 27 = .ok (.lrem, 1) := by decide +kernel
theorem dX0_commonDivisor_28 : decode cX0_commonDivisor 28 = .ok (.lstore 9, 2) := by decide +kernel
theorem dX0_commonDivisor_30 : decode cX0_commonDivisor 30 = .ok (.lload 6, 2) := by decide +kernel
theorem dX0_commonDivisor_32 : decode cX0_commonDivisor 32 = .ok (.lstore 4, 2) := by decide +kernel
theorem dX0_commonDivisor_34 : decode cX0_commonDivisor 34 = .ok (.lload 9, 2) := by decide +kernel
theorem dX0_commonDivisor_36 : decode cX0_commonDivisor 36 = .ok (.lstore 6, 2) := by decide +kernel
theorem dX0_commonDivisor_38 : decode cX0_commonDivisor 38 = .ok (.iinc 8 1, 3) := by decide +kernel
theorem dX0_commonDivisor_41 : decode cX0_commonDivisor 41 = .ok (.goto (-32), 3) := by decide +kernel
theorem dX0_commonDivisor_44 : decode cX0_commonDivisor 44 = .ok (.lload 4, 2) := by decide +kernel
theorem dX0_commonDivisor_46 : decode cX0_commonDivisor 46 = .ok (.lreturn, 1) := by decide +kernel
theorem dX1_init_0 : decode cX1_init 0 = .ok (.aload_n 0, 1) := by decide +kernel
theorem dX1_init_1 : decode cX1_init 1 = .ok (.invokespecial 3, 3) := by decide +kernel
theorem dX1_init_4 : decode cX1_init 4 = .ok (.aload_n 0, 1) := by decide +kernel
theorem dX1_init_5 : decode cX1_init 5 = .ok (.bipush 10, 2) := by decide +kernel
theorem dX1_init_7 : decode cX1_init 7 = .ok (.anewarray 9, 3) := by decide +kernel
theorem dX1_init_10 : decode cX1_init 10 = .ok (.putfield 11, 3) := by decide +kernel
theorem dX1_init_13 : decode cX1_init 13 = .ok (.iconst 0, 1) := by decide +kernel
theorem dX1_init_14 : decode cX1_init 14 = .ok (.istore_n 1, 1) := by decide +kernel
theorem dX1_init_15 : decode cX1_init 15 = .ok (.iload_n 1, 1) := by decide +kernel
theorem dX1_init_16 : decode cX1_init 16 = .ok (.bipush 10, 2) := by decide +kernel
theorem dX1_init_18 : decode cX1_init 18 = .ok (.if_icmp .ge 22, 3) := by decide +kernel
theorem dX1_init_21 : decode cX1_init 21 = .ok (.aload_n 0, 1) := by decide +kernel
theorem dX1_init_22 : decode cX1_init 22 = .ok (.getfield 11, 3) := by decide +kernel
theorem dX1_init_25 : decode cX1_init 25 = .ok (.iload_n 1, 1) := by decide +kernel
theorem dX1_init_26 : decode cX1_init 26 = .ok (.new 9, 3) := by decide +kernel
theorem dX1_init_29 : decode cX1_init 29 = .ok (.dup, 1) := by decide +kernel
theorem dX1_init_30 : decode cX1_init 30 = .ok (.invokespecial 17, 3) := by decide +kernel
theorem dX1_init_33 : decode cX1_init 33 = .ok (.aastore, 1) := by decide +kernel
theorem dX1_init_34 : decode cX1_init 34 = .ok (.iinc 1 1, 3) := by decide +kernel
theorem dX1_init_37 : decode cX1_init 37 = .ok (.goto (-22), 3) := by decide +kernel
theorem dX1_init_40 : decode cX1_init 40 = .ok (.return_, 1) := by decide +kernel
theorem dX1_size_0 : decode cX1_size 0 = .ok (.aload_n 0, 1) := by decide +kernel
theorem dX1_size_1 : decode cX1_size 1 = .ok (.getfield 18, 3) := by decide +kernel
theorem dX1_size_4 : decode cX1_size 4 = .ok (.ireturn, 1) := by decide +kernel
theorem dX1_remember_0 : decode cX1_remember 0 = .ok (.aload_n 0, 1) := by decide +kernel
theorem dX1_remember_1 : decode cX1_remember 1 = .ok (.getfield 11, 3) := by decide +kernel
theorem dX1_remember_4 : decode cX1_remember 4 = .ok (.aload_n 0, 1) := by decide +kernel
theorem dX1_remember_5 : decode cX1_remember 5 = .ok (.getfield 22, 3) := by decide +kernel
theorem dX1_remember_8 : decode cX1_remember 8 = .ok (.aaload, 1) := by decide +kernel
theorem dX1_remember_9 : decode cX1_remember 9 = .ok (.aload_n 1, 1) := by decide +kernel
theorem dX1_remember_10 : decode cX1_remember 10 = .ok (.invokevirtual 25, 3) := by decide +kernel
theorem dX1_remember_13 : decode cX1_remember 13 = .ok (.aload_n 0, 1) := by decide +kernel
theorem dX1_remember_14 : decode cX1_remember 14 = .ok (.aload_n 0, 1) := by decide +kernel
theorem dX1_remember_15 : decode cX1_remember 15 = .ok (.getfield 22, 3) := by decide +kernel
theorem dX1_remember_18 : decode cX1_remember 18 = .ok (.iconst 1, 1) := by decide +kernel
theorem dX1_remember_19 : decode cX1_remember 19 = .ok (.iadd, 1) := by decide +kernel
theorem dX1_remember_20 : decode cX1_remember 20 = .ok (.bipush 10, 2) := by decide +kernel
theorem dX1_remember_22 : decode cX1_remember 22 = .ok (.if_icmp .ge 12, 3) := by decide +kernel
theorem dX1_remember_25 : decode cX1_remember 25 = .ok (.aload_n 0, 1) := by decide +kernel
theorem dX1_remember_26 : decode cX1_remember 26 = .ok (.getfield 22, 3) := by decide +kernel
theorem dX1_remember_29 : decode cX1_remember 29 = .ok (.iconst 1, 1) := by decide +kernel
theorem dX1_remember_30 : decode cX1_remember 30 = .ok (.iadd, 1) := by decide +kernel
theorem dX1_remember_31 : decode cX1_remember 31 = .ok (.goto 4, 3) := by decide +kernel
theorem dX1_remember_34 : decode cX1_remember 34 = .ok (.iconst 0, 1) := by decide +kernel
theorem dX1_remember_35 : decode cX1_remember 35 = .ok (.putfield 22, 3) := by decide +kernel
theorem dX1_remember_38 : decode cX1_remember 38 = .ok (.aload_n 0, 1) := by decide +kernel
theorem dX1_remember_39 : decode cX1_remember 39 = .ok (.aload_n 0, 1) := by decide +kernel
theorem dX1_remember_40 : decode cX1_remember 40 = .ok (.getfield 18, 3) := by decide +kernel
theorem dX1_remember_43 : decode cX1_remember 43 = .ok (.iconst 1, 1) := by decide +kernel
theorem dX1_remember_44 : decode cX1_remember 44 = .ok (.iadd, 1) := by decide +kernel
theorem dX1_remember_45 : decode cX1_remember 45 = .ok (.bipush 10, 2) := by decide +kernel
theorem dX1_remember_47 : decode cX1_remember 47 = .ok (.invokestatic 29, 3) := by decide +kernel
theorem dX1_remember_50 : decode cX1_remember 50 = .ok (.putfield 18, 3) := by decide +kernel
theorem dX1_remember_53 : decode cX1_remember 53 = .ok (.return_, 1) := by decide +kernel
theorem dX1_restore_0 : decode cX1_restore 0 = .ok (.aload_n 0, 1) := by decide +kernel
theorem dX1_restore_1 : decode cX1_restore 1 = .ok (.getfield 18, 3) := by decide +kernel
theorem dX1_restore_4 : decode cX1_restore 4 = .ok (.ifCond .ne 5, 3) := by decide +kernel
theorem dX1_restore_7 : decode cX1_restore 7 = .ok (.iconst 0, 1) := by decide +kernel
theorem dX1_restore_8 : decode cX1_restore 8 = .ok (.ireturn, 1) := by decide +kernel
theorem dX1_restore_9 : decode cX1_restore 9 = .ok (.aload_n 0, 1) := by decide +kernel
theorem dX1_restore_10 : decode cX1_restore 10 = .ok (.aload_n 0, 1) := by decide +kernel
theorem dX1_restore_11 : decode cX1_restore 11 = .ok (.getfield 22, 3) := by decide +kernel
theorem dX1_restore_14 : decode cX1_restore 14 = .ok (.ifCond .le 12, 3) := by decide +kernel
theorem dX1_restore_17 : decode cX1_restore 17 = .ok (.aload_n 0, 1) := by decide +kernel
theorem dX1_restore_18 : decode cX1_restore 18 = .ok (.getfield 22, 3) := by decide +kernel
theorem dX1_restore_21 : decode cX1_restore 21 = .ok (.iconst 1, 1) := by decide +kernel
theorem dX1_restore_22 : decode cX1_restore 22 = .ok (.isub, 1) := by decide +kernel
theorem dX1_restore_23 : decode cX1_restore 23 = .ok (.goto 5, 3) := by decide +kernel
theorem dX1_restore_26 : decode cX1_restore 26 = .ok (.bipush 9, 2) := by decide +kernel
theorem dX1_restore_28 : decode cX1_restore 28 = .ok (.putfield 22, 3) := by decide +kernel
theorem dX1_restore_31 : decode cX1_restore 31 = .ok (.aload_n 0, 1) := by decide +kernel
theorem dX1_restore_32 : decode cX1_restore 32 = .ok (.dup, 1) := by decide +kernel
theorem dX1_restore_33 : decode cX1_restore 33 = .ok (.getfield 18, 3) := by decide +kernel
theorem dX1_restore_36 : decode cX1_restore 36 = .ok (.iconst 1, 1) := by decide +kernel
theorem dX1_restore_37 : decode cX1_restore 37 = .ok (.isub, 1) := by decide +kernel
theorem dX1_restore_38 : decode cX1_restore 38 = .ok (.putfield 18, 3) := by decide +kernel
theorem dX1_restore_41 : decode cX1_restore 41 = .ok (.aload_n 1, 1) := by decide +kernel
theorem dX1_restore_42 : decode cX1_restore 42 = .ok (.aload_n 0, 1) := by decide +kernel
theorem dX1_restore_43 : decode cX1_restore 43 = .ok (.getfield 11, 3) := by decide +kernel
theorem dX1_restore_46 : decode cX1_restore 46 = .ok (.aload_n 0, 1) := by decide +kernel
theorem dX1_restore_47 : decode cX1_restore 47 = .ok (.getfield 22, 3) := by decide +kernel
theorem dX1_restore_50 : decode cX1_restore 50 = .ok (.aaload, 1) := by decide +kernel
theorem dX1_restore_51 : decode cX1_restore 51 = .ok (.invokevirtual 25, 3) := by decide +kernel
theorem dX1_restore_54 : decode cX1_restore 54 = .ok (.iconst 1, 1) := by decide +kernel
theorem dX1_restore_55 : decode cX1_restore 55 = .ok (.ireturn, 1) := by decide +kernel
theorem dX1_lose_0 : decode cX1_lose 0 = .ok (.aload_n 0, 1) := by decide +kernel
theorem dX1_lose_1 : decode cX1_lose 1 = .ok (.iconst 0, 1) := by decide +kernel
theorem dX1_lose_2 : decode cX1_lose 2 = .ok (.putfield 18, 3) := by decide +kernel
theorem dX1_lose_5 : decode cX1_lose 5 = .ok (.return_, 1) := by decide +kernel
theorem dX2_init_0 : decode cX2_init 0 = .ok (.aload_n 0, 1) := by decide +kernel
theorem dX2_init_1 : decode cX2_init 1 = .ok (.invokespecial 3, 3) := by decide +kernel
theorem dX2_init_4 : decode cX2_init 4 = .ok (.aload_n 0, 1) := by decide +kernel
theorem dX2_init_5 : decode cX2_init 5 = .ok (.bipush (-9), 2) := by decide +kernel
theorem dX2_init_7 : decode cX2_init 7 = .ok (.putfield 9, 3) := by decide +kernel
theorem dX2_init_10 : decode cX2_init 10 = .ok (.aload_n 0, 1) := by decide +kernel
theorem dX2_init_11 : decode cX2_init 11 = .ok (.bipush 12, 2) := by decide +kernel
theorem dX2_init_13 : decode cX2_init 13 = .ok (.newarray .int, 2) := by decide +kernel
theorem dX2_init_15 : decode cX2_init 15 = .ok (.putfield 15, 3) := by decide +kernel
theorem dX2_init_18 : decode cX2_init 18 = .ok (.return_, 1) := by decide +kernel
theorem dX2_startAt_0 : decode cX2_startAt 0 = .ok (.aload_n 0, 1) := by decide +kernel
theorem dX2_startAt_1 : decode cX2_startAt 1 = .ok (.iload_n 1, 1) := by decide +kernel
theorem dX2_startAt_2 : decode cX2_startAt 2 = .ok (.putfield 19, 3) := by decide +kernel
theorem dX2_startAt_5 : decode cX2_startAt 5 = .ok (.aload_n 0, 1) := by decide +kernel
theorem dX2_startAt_6 : decode cX2_startAt 6 = .ok (.bipush (-9), 2) := by decide +kernel
theorem dX2_startAt_8 : decode cX2_startAt 8 = .ok (.putfield 9, 3) := by decide +kernel
theorem dX2_startAt_11 : decode cX2_startAt 11 = .ok (.aload_n 0, 1) := by decide +kernel
theorem dX2_startAt_12 : decode cX2_startAt 12 = .ok (.iconst 0, 1) := by decide +kernel
theorem dX2_startAt_13 : decode cX2_startAt 13 = .ok (.putfield 22, 3) := by decide +kernel
theorem dX2_startAt_16 : decode cX2_startAt 16 = .ok (.aload_n 0, 1) := by decide +kernel
theorem dX2_startAt_17 : decode cX2_startAt 17 = .ok (.iconst 0, 1) := by decide +kernel
theorem dX2_startAt_18 : decode cX2_startAt 18 = .ok (.putfield 25, 3) := by decide +kernel
theorem dX2_startAt_21 : decode cX2_startAt 21 = .ok (.aload_n 0, 1) := by decide +kernel
theorem dX2_startAt_22 : decode cX2_startAt 22 = .ok (.iconst 0, 1) := by decide +kernel
theorem dX2_startAt_23 : decode cX2_startAt 23 = .ok (.putfield 28, 3) := by decide +kernel
theorem dX2_startAt_26 : decode cX2_startAt 26 = .ok (.iconst 0, 1) := by decide +kernel
theorem dX2_startAt_27 : decode cX2_startAt 27 = .ok (.istore_n 2, 1) := by decide +kernel
theorem dX2_startAt_28 : decode cX2_startAt 28 = .ok (.iload_n 2, 1) := by decide +kernel
theorem dX2_startAt_29 : decode cX2_startAt 29 = .ok (.bipush 12, 2) := by decide +kernel
theorem dX2_startAt_31 : decode cX2_startAt 31 = .ok (.if_icmp .ge 16, 3) := by decide +kernel
theorem dX2_startAt_34 : decode cX2_startAt 34 = .ok (.aload_n 0, 1) := by decide +kernel
theorem dX2_startAt_35 : decode cX2_startAt 35 = .ok (.getfield 15, 3) := by decide +kernel
theorem dX2_startAt_38 : decode cX2_startAt 38 = .ok (.iload_n 2, 1) := by decide +kernel
theorem dX2_startAt_39 : decode cX2_startAt 39 = .ok (.iconst 0, 1) := by decide +kernel
theorem dX2_startAt_40 : decode cX2_startAt 40 = .ok (.iastore, 1) := by decide +kernel
theorem dX2_startAt_41 : decode cX2_startAt 41 = .ok (.iinc 2 1, 3) := by decide +kernel
theorem dX2_startAt_44 : decode cX2_startAt 44 = .ok (.goto (-16), 3) := by decide +kernel
theorem dX2_startAt_47 : decode cX2_startAt 47 = .ok (.return_, 1) := by decide +kernel
theorem dX2_become_0 : decode cX2_become 0 = .ok (.aload_n 0, 1) := by decide +kernel
theorem dX2_become_1 : decode cX2_become 1 = .ok (.aload_n 1, 1) := by decide +kernel
theorem dX2_become_2 : decode cX2_become 2 = .ok (.getfield 19, 3) := by decide +kernel
theorem dX2_become_5 : decode cX2_become 5 = .ok (.putfield 19, 3) := by decide +kernel
theorem dX2_become_8 : decode cX2_become 8 = .ok (.aload_n 0, 1) := by decide +kernel
theorem dX2_become_9 : decode cX2_become 9 = .ok (.aload_n 1, 1) := by decide +kernel
theorem dX2_become_10 : decode cX2_become 10 = .ok (.getfield 9, 3) := by decide +kernel
theorem dX2_become_13 : decode cX2_become 13 = .ok (.putfield 9, 3) := by decide +kernel
theorem dX2_become_16 : decode cX2_become 16 = .ok (.aload_n 0, 1) := by decide +kernel
theorem dX2_become_17 : decode cX2_become 17 = .ok (.aload_n 1, 1) := by decide +kernel
theorem dX2_become_18 : decode cX2_become 18 = .ok (.getfield 22, 3) := by decide +kernel
theorem dX2_become_21 : decode cX2_become 21 = .ok (.putfield 22, 3) := by decide +kernel
theorem dX2_become_24 : decode cX2_become 24 = .ok (.aload_n 0, 1) := by decide +kernel
theorem dX2_become_25 : decode cX2_become 25 = .ok (.aload_n 1, 1) := by decide +kernel
theorem dX2_become_26 : decode cX2_become 26 = .ok (.getfield 25, 3) := by decide +kernel
theorem dX2_become_29 : decode cX2_become 29 = .ok (.putfield 25, 3) := by decide +kernel
theorem dX2_become_32 : decode cX2_become 32 = .ok (.aload_n 0, 1) := by decide +kernel
theorem dX2_become_33 : decode cX2_become 33 = .ok (.aload_n 1, 1) := by decide +kernel
theorem dX2_become_34 : decode cX2_become 34 = .ok (.getfield 28, 3) := by decide +kernel
theorem dX2_become_37 : decode cX2_become 37 = .ok (.putfield 28, 3) := by decide +kernel
theorem dX2_become_40 : decode cX2_become 40 = .ok (.aload_n 1, 1) := by decide +kernel
theorem dX2_become_41 : decode cX2_become 41 = .ok (.getfield 15, 3) := by decide +kernel
theorem dX2_become_44 : decode cX2_become 44 = .ok (.iconst 0, 1) := by decide +kernel
theorem dX2_become_45 : decode cX2_become 45 = .ok (.aload_n 0, 1) := by decide +kernel
theorem dX2_become_46 : decode cX2_become 46 = .ok (.getfield 15, 3) := by decide +kernel
theorem dX2_become_49 : decode cX2_become 49 = .ok (.iconst 0, 1) := by decide +kernel
theorem dX2_become_50 : decode cX2_become 50 = .ok (.bipush 12, 2) := by decide +kernel
theorem dX2_become_52 : decode cX2_become 52 = .ok (.invokestatic 31, 3) := by decide +kernel
theorem dX2_become_55 : decode cX2_become 55 = .ok (.return_, 1) := by decide +kernel
theorem dX2_isShut_0 : decode cX2_isShut 0 = .ok (.aload_n 0, 1) := by decide +kernel
theorem dX2_isShut_1 : decode cX2_isShut 1 = .ok (.getfield 28, 3) := by decide +kernel
theorem dX2_isShut_4 : decode cX2_isShut 4 = .ok (.iload_n 1, 1) := by decide +kernel
theorem dX2_isShut_5 : decode cX2_isShut 5 = .ok (.invokestatic 37, 3) := by decide +kernel
theorem dX2_isShut_8 : decode cX2_isShut 8 = .ok (.ireturn, 1) := by decide +kernel
theorem dX3_init_0 : decode cX3_init 0 = .ok (.aload_n 0, 1) := by decide +kernel
theorem dX3_init_1 : decode cX3_init 1 = .ok (.invokespecial 3, 3) := by decide +kernel
theorem dX3_init_4 : decode cX3_init 4 = .ok (.aload_n 0, 1) := by decide +kernel
theorem dX3_init_5 : decode cX3_init 5 = .ok (.sipush 200, 3) := by decide +kernel
theorem dX3_init_8 : decode cX3_init 8 = .ok (.newarray .int, 2) := by decide +kernel
theorem dX3_init_10 : decode cX3_init 10 = .ok (.putfield 9, 3) := by decide +kernel
theorem dX3_init_13 : decode cX3_init 13 = .ok (.return_, 1) := by decide +kernel
theorem dX3_size_0 : decode cX3_size 0 = .ok (.aload_n 0, 1) := by decide +kernel
theorem dX3_size_1 : decode cX3_size 1 = .ok (.getfield 15, 3) := by decide +kernel
theorem dX3_size_4 : decode cX3_size 4 = .ok (.ireturn, 1) := by decide +kernel
theorem dX3_add_0 : decode cX3_add 0 = .ok (.aload_n 0, 1) := by decide +kernel
theorem dX3_add_1 : decode cX3_add 1 = .ok (.getfield 15, 3) := by decide +kernel
theorem dX3_add_4 : decode cX3_add 4 = .ok (.sipush 200, 3) := by decide +kernel
theorem dX3_add_7 : decode cX3_add 7 = .ok (.if_icmp .lt 5, 3) := by decide +kernel
theorem dX3_add_10 : decode cX3_add 10 = .ok (.iconst 0, 1) := by decide +kernel
theorem dX3_add_11 : decode cX3_add 11 = .ok (.ireturn, 1) := by decide +kernel
theorem dX3_add_12 : decode cX3_add 12 = .ok (.aload_n 0, 1) := by decide +kernel
theorem dX3_add_13 : decode cX3_add 13 = .ok (.getfield 9, 3) := by decide +kernel
theorem dX3_add_16 : decode cX3_add 16 = .ok (.aload_n 0, 1) := by decide +kernel
theorem dX3_add_17 : decode cX3_add 17 = .ok (.getfield 15, 3) := by decide +kernel
theorem dX3_add_20 : decode cX3_add 20 = .ok (.iload_n 1, 1) := by decide +kernel
theorem dX3_add_21 : decode cX3_add 21 = .ok (.iastore, 1) := by decide +kernel
theorem dX3_add_22 : decode cX3_add 22 = .ok (.aload_n 0, 1) := by decide +kernel
theorem dX3_add_23 : decode cX3_add 23 = .ok (.dup, 1) := by decide +kernel
theorem dX3_add_24 : decode cX3_add 24 = .ok (.getfield 15, 3) := by decide +kernel
theorem dX3_add_27 : decode cX3_add 27 = .ok (.iconst 1, 1) := by decide +kernel
theorem dX3_add_28 : decode cX3_add 28 = .ok (.iadd, 1) := by decide +kernel
theorem dX3_add_29 : decode cX3_add 29 = .ok (.putfield 15, 3) := by decide +kernel
theorem dX3_add_32 : decode cX3_add 32 = .ok (.iconst 1, 1) := by decide +kernel
theorem dX3_add_33 : decode cX3_add 33 = .ok (.ireturn, 1) := by decide +kernel
theorem dX3_empty_0 : decode cX3_empty 0 = .ok (.aload_n 0, 1) := by decide +kernel
theorem dX3_empty_1 : decode cX3_empty 1 = .ok (.getfield 15, 3) := by decide +kernel
theorem dX3_empty_4 : decode cX3_empty 4 = .ok (.istore_n 1, 1) := by decide +kernel
theorem dX3_empty_5 : decode cX3_empty 5 = .ok (.aload_n 0, 1) := by decide +kernel
theorem dX3_empty_6 : decode cX3_empty 6 = .ok (.iconst 0, 1) := by decide +kernel
theorem dX3_empty_7 : decode cX3_empty 7 = .ok (.putfield 15, 3) := by decide +kernel
theorem dX3_empty_10 : decode cX3_empty 10 = .ok (.iload_n 1, 1) := by decide +kernel
theorem dX3_empty_11 : decode cX3_empty 11 = .ok (.ireturn, 1) := by decide +kernel
theorem dX3_read_0 : decode cX3_read 0 = .ok (.aload_n 1, 1) := by decide +kernel
theorem dX3_read_1 : decode cX3_read 1 = .ok (.invokevirtual 19, 3) := by decide +kernel
theorem dX3_read_4 : decode cX3_read 4 = .ok (.aload_n 0, 1) := by decide +kernel
theorem dX3_read_5 : decode cX3_read 5 = .ok (.iconst 0, 1) := by decide +kernel
theorem dX3_read_6 : decode cX3_read 6 = .ok (.putfield 24, 3) := by decide +kernel
theorem dX3_read_9 : decode cX3_read 9 = .ok (.aload_n 0, 1) := by decide +kernel
theorem dX3_read_10 : decode cX3_read 10 = .ok (.iconst 0, 1) := by decide +kernel
theorem dX3_read_11 : decode cX3_read 11 = .ok (.putfield 28, 3) := by decide +kernel
theorem dX3_read_14 : decode cX3_read 14 = .ok (.aload_n 0, 1) := by decide +kernel
theorem dX3_read_15 : decode cX3_read 15 = .ok (.iconst 0, 1) := by decide +kernel
theorem dX3_read_16 : decode cX3_read 16 = .ok (.putfield 31, 3) := by decide +kernel
theorem dX3_read_19 : decode cX3_read 19 = .ok (.aload_n 0, 1) := by decide +kernel
theorem dX3_read_20 : decode cX3_read 20 = .ok (.iconst 0, 1) := by decide +kernel
theorem dX3_read_21 : decode cX3_read 21 = .ok (.putfield 34, 3) := by decide +kernel
theorem dX3_read_24 : decode cX3_read 24 = .ok (.aload_n 0, 1) := by decide +kernel
theorem dX3_read_25 : decode cX3_read 25 = .ok (.invokevirtual 37, 3) := by decide +kernel
theorem dX3_read_28 : decode cX3_read 28 = .ok (.iconst 0, 1) := by decide +kernel
theorem dX3_read_29 : decode cX3_read 29 = .ok (.istore_n 2, 1) := by decide +kernel
theorem dX3_read_30 : decode cX3_read 30 = .ok (.aload_n 0, 1) := by decide +kernel
theorem dX3_read_31 : decode cX3_read 31 = .ok (.getfield 40, 3) := by decide +kernel
theorem dX3_read_34 : decode cX3_read 34 = .ok (.bipush (-2), 2) := by decide +kernel
theorem dX3_read_36 : decode cX3_read 36 = .ok (.if_icmp .eq 41, 3) := by decide +kernel
theorem dX3_read_39 : decode cX3_read 39 = .ok (.iload_n 2, 1) := by decide +kernel
theorem dX3_read_40 : decode cX3_read 40 = .ok (.sipush 200, 3) := by decide +kernel
theorem dX3_read_43 : decode cX3_read 43 = .ok (.if_icmp .ge 34, 3) := by decide +kernel
theorem dX3_read_46 : decode cX3_read 46 = .ok (.aload_n 0, 1) := by decide +kernel
theorem dX3_read_47 : decode cX3_read 47 = .ok (.aload_n 1, 1) := by decide +kernel
theorem dX3_read_48 : decode cX3_read 48 = .ok (.iload_n 2, 1) := by decide +kernel
theorem dX3_read_49 : decode cX3_read 49 = .ok (.ifCond .ne 7, 3) := by decide +kernel
theorem dX3_read_52 : decode cX3_read 52 = .ok (.iconst 1, 1) := by decide +kernel
theorem dX3_read_53 : decode cX3_read 53 = .ok (.goto 4, 3) := by decide +kernel
theorem dX3_read_56 : decode cX3_read 56 = .ok (.iconst 0, 1) := by decide +kernel
theorem dX3_read_57 : decode cX3_read 57 = .ok (.invokevirtual 43, 3) := by decide +kernel
theorem dX3_read_60 : decode cX3_read 60 = .ok (.ifCond .ne 11, 3) := by decide +kernel
theorem dX3_read_63 : decode cX3_read 63 = .ok (.bipush (-10), 2) := by decide +kernel
theorem dX3_read_65 : decode cX3_read 65 = .ok (.aload_n 0, 1) := by decide +kernel
theorem dX3_read_66 : decode cX3_read 66 = .ok (.getfield 47, 3) := by decide +kernel
theorem dX3_read_69 : decode cX3_read 69 = .ok (.isub, 1) := by decide +kernel
theorem dX3_read_70 : decode cX3_read 70 = .ok (.ireturn, 1) := by decide +kernel
theorem dX3_read_71 : decode cX3_read 71 = .ok (.iinc 2 1, 3) := by decide +kernel
theorem dX3_read_74 : decode cX3_read 74 = .ok (.goto (-44), 3) := by decide +kernel
theorem dX3_read_77 : decode cX3_read 77 = .ok (.iload_n 2, 1) := by decide +kernel
theorem dX3_read_78 : decode cX3_read 78 = .ok (.ireturn, 1) := by decide +kernel
theorem dX3_readItem_0 : decode cX3_readItem 0 = .ok (.aload_n 0, 1) := by decide +kernel
theorem dX3_readItem_1 : decode cX3_readItem 1 = .ok (.getfield 40, 3) := by decide +kernel
theorem dX3_readItem_4 : decode cX3_readItem 4 = .ok (.istore_n 3, 1) := by decide +kernel
theorem dX3_readItem_5 : decode cX3_readItem 5 = .ok (.aload_n 0, 1) := by decide +kernel
theorem dX3_readItem_6 : decode cX3_readItem 6 = .ok (.iload_n 3, 1) := by decide +kernel
theorem dX3_readItem_7 : decode cX3_readItem 7 = .ok (.aload_n 1, 1) := by decide +kernel
theorem dX3_readItem_8 : decode cX3_readItem 8 = .ok (.iload_n 2, 1) := by decide +kernel
theorem dX3_readItem_9 : decode cX3_readItem 9 = .ok (.invokevirtual 50, 3) := by decide +kernel
theorem dX3_readItem_12 : decode cX3_readItem 12 = .ok (.ifCond .ne 5, 3) := by decide +kernel
theorem dX3_readItem_15 : decode cX3_readItem 15 = .ok (.iconst 0, 1) := by decide +kernel
theorem dX3_readItem_16 : decode cX3_readItem 16 = .ok (.ireturn, 1) := by decide +kernel
theorem dX3_readItem_17 : decode cX3_readItem 17 = .ok (.aload_n 0, 1) := by decide +kernel
theorem dX3_readItem_18 : decode cX3_readItem 18 = .ok (.invokevirtual 37, 3) := by decide +kernel
theorem dX3_readItem_21 : decode cX3_readItem 21 = .ok (.aload_n 0, 1) := by decide +kernel
theorem dX3_readItem_22 : decode cX3_readItem 22 = .ok (.iload_n 3, 1) := by decide +kernel
theorem dX3_readItem_23 : decode cX3_readItem 23 = .ok (.aload_n 1, 1) := by decide +kernel
theorem dX3_readItem_24 : decode cX3_readItem 24 = .ok (.invokevirtual 54, 3) := by decide +kernel
theorem dX3_readItem_27 : decode cX3_readItem 27 = .ok (.ifCond .eq 12, 3) := by decide +kernel
theorem dX3_readItem_30 : decode cX3_readItem 30 = .ok (.aload_n 0, 1) := by decide +kernel
theorem dX3_readItem_31 : decode cX3_readItem 31 = .ok (.getfield 40, 3) := by decide +kernel
theorem dX3_readItem_34 : decode cX3_readItem 34 = .ok (.bipush 59, 2) := by decide +kernel
theorem dX3_readItem_36 : decode cX3_readItem 36 = .ok (.if_icmp .eq 5, 3) := by decide +kernel
theorem dX3_readItem_39 : decode cX3_readItem 39 = .ok (.iconst 0, 1) := by decide +kernel
theorem dX3_readItem_40 : decode cX3_readItem 40 = .ok (.ireturn, 1) := by decide +kernel
theorem dX3_readItem_41 : decode cX3_readItem 41 = .ok (.aload_n 0, 1) := by decide +kernel
theorem dX3_readItem_42 : decode cX3_readItem 42 = .ok (.invokevirtual 37, 3) := by decide +kernel
theorem dX3_readItem_45 : decode cX3_readItem 45 = .ok (.iconst 1, 1) := by decide +kernel
theorem dX3_readItem_46 : decode cX3_readItem 46 = .ok (.ireturn, 1) := by decide +kernel
theorem dX3_canBegin_0 : decode cX3_canBegin 0 = .ok (.iload_n 1, 1) := by decide +kernel
theorem dX3_canBegin_1 : decode cX3_canBegin 1 = .ok (.tableswitch 125 103 115 #[86, 125, 125, 125, 125, 112, 125, 99, 125, 67, 125, 69, 84], 67) := by decide +kernel
theorem dX3_canBegin_68 : decode cX3_canBegin 68 = .ok (.iload_n 3, 1) := by decide +kernel
theorem dX3_canBegin_69 : decode cX3_canBegin 69 = .ok (.ireturn, 1) := by decide +kernel
theorem dX3_canBegin_70 : decode cX3_canBegin 70 = .ok (.aload_n 2, 1) := by decide +kernel
theorem dX3_canBegin_71 : decode cX3_canBegin 71 = .ok (.getfield 58, 3) := by decide +kernel
theorem dX3_canBegin_74 : decode cX3_canBegin 74 = .ok (.bipush 12, 2) := by decide +kernel
theorem dX3_canBegin_76 : decode cX3_canBegin 76 = .ok (.if_icmp .ge 7, 3) := by decide +kernel
theorem dX3_canBegin_79 : decode cX3_canBegin 79 = .ok (.iconst 1, 1) := by decide +kernel
theorem dX3_canBegin_80 : decode cX3_canBegin 80 = .ok (.goto 4, 3) := by decide +kernel
theorem dX3_canBegin_83 : decode cX3_canBegin 83 = .ok (.iconst 0, 1) := by decide +kernel
theorem dX3_canBegin_84 : decode cX3_canBegin 84 = .ok (.ireturn, 1) := by decide +kernel
theorem dX3_canBegin_85 : decode cX3_canBegin 85 = .ok (.iconst 1, 1) := by decide +kernel
theorem dX3_canBegin_86 : decode cX3_canBegin 86 = .ok (.ireturn, 1) := by decide +kernel
theorem dX3_canBegin_87 : decode cX3_canBegin 87 = .ok (.aload_n 0, 1) := by decide +kernel
theorem dX3_canBegin_88 : decode cX3_canBegin 88 = .ok (.getfield 24, 3) := by decide +kernel
theorem dX3_canBegin_91 : decode cX3_canBegin 91 = .ok (.ifCond .ne 7, 3) := by decide +kernel
theorem dX3_canBegin_94 : decode cX3_canBegin 94 = .ok (.iconst 1, 1) := by decide +kernel
theorem dX3_canBegin_95 : decode cX3_canBegin 95 = .ok (.goto 4, 3) := by decide +kernel
theorem dX3_canBegin_98 : decode cX3_canBegin 98 = .ok (.iconst 0, 1) := by decide +kernel
theorem dX3_canBegin_99 : decode cX3_canBegin 99 = .ok (.ireturn, 1) := by decide +kernel
theorem dX3_canBegin_100 : decode cX3_canBegin 100 = .ok (.aload_n 0, 1) := by decide +kernel
theorem dX3_canBegin_101 : decode cX3_canBegin 101 = .ok (.getfield 28, 3) := by decide +kernel
theorem dX3_canBegin_104 : decode cX3_canBegin 104 = .ok (.ifCond .ne 7, 3) := by decide +kernel
theorem dX3_canBegin_107 : decode cX3_canBegin 107 = .ok (.iconst 1, 1) := by decide +kernel
theorem dX3_canBegin_108 : decode cX3_canBegin 108 = .ok (.goto 4, 3) := by decide +kernel
theorem dX3_canBegin_111 : decode cX3_canBegin 111 = .ok (.iconst 0, 1) := by decide +kernel
theorem dX3_canBegin_112 : decode cX3_canBegin 112 = .ok (.ireturn, 1) := by decide +kernel
theorem dX3_canBegin_113 : decode cX3_canBegin 113 = .ok (.aload_n 0, 1) := by decide +kernel
theorem dX3_canBegin_114 : decode cX3_canBegin 114 = .ok (.getfield 31, 3) := by decide +kernel
theorem dX3_canBegin_117 : decode cX3_canBegin 117 = .ok (.ifCond .ne 7, 3) := by decide +kernel
theorem dX3_canBegin_120 : decode cX3_canBegin 120 = .ok (.iconst 1, 1) := by decide +kernel
theorem dX3_canBegin_121 : decode cX3_canBegin 121 = .ok (.goto 4, 3) := by decide +kernel
theorem dX3_canBegin_124 : decode cX3_canBegin 124 = .ok (.iconst 0, 1) := by decide +kernel
theorem dX3_canBegin_125 : decode cX3_canBegin 125 = .ok (.ireturn, 1) := by decide +kernel
theorem dX3_canBegin_126 : decode cX3_canBegin 126 = .ok (.iconst 0, 1) := by decide +kernel
theorem dX3_canBegin_127 : decode cX3_canBegin 127 = .ok (.ireturn, 1) := by decide +kernel
theorem dX3_readNumbers_0 : decode cX3_readNumbers 0 = .ok (.iload_n 1, 1) := by decide +kernel
theorem dX3_readNumbers_1 : decode cX3_readNumbers 1 = .ok (.tableswitch 103 103 115 #[85, 103, 103, 103, 103, 97, 103, 91, 103, 67, 103, 73, 79], 67) := by decide +kernel
theorem dX3_readNumbers_68 : decode cX3_readNumbers 68 = .ok (.aload_n 0, 1) := by decide +kernel
theorem dX3_readNumbers_69 : decode cX3_readNumbers 69 = .ok (.aload_n 2, 1) := by decide +kernel
theorem dX3_readNumbers_70 : decode cX3_readNumbers 70 = .ok (.invokevirtual 61, 3) := by decide +kernel
theorem dX3_readNumbers_73 : decode cX3_readNumbers 73 = .ok (.ireturn, 1) := by decide +kernel
theorem dX3_readNumbers_74 : decode cX3_readNumbers 74 = .ok (.aload_n 0, 1) := by decide +kernel
theorem dX3_readNumbers_75 : decode cX3_readNumbers 75 = .ok (.aload_n 2, 1) := by decide +kernel
theorem dX3_readNumbers_76 : decode cX3_readNumbers 76 = .ok (.invokevirtual 65, 3) := by decide +kernel
theorem dX3_readNumbers_79 : decode cX3_readNumbers 79 = .ok (.ireturn, 1) := by decide +kernel
theorem dX3_readNumbers_80 : decode cX3_readNumbers 80 = .ok (.aload_n 0, 1) := by decide +kernel
theorem dX3_readNumbers_81 : decode cX3_readNumbers 81 = .ok (.aload_n 2, 1) := by decide +kernel
theorem dX3_readNumbers_82 : decode cX3_readNumbers 82 = .ok (.invokevirtual 68, 3) := by decide +kernel
theorem dX3_readNumbers_85 : decode cX3_readNumbers 85 = .ok (.ireturn, 1) := by decide +kernel
theorem dX3_readNumbers_86 : decode cX3_readNumbers 86 = .ok (.aload_n 0, 1) := by decide +kernel
theorem dX3_readNumbers_87 : decode cX3_readNumbers 87 = .ok (.aload_n 2, 1) := by decide +kernel
theorem dX3_readNumbers_88 : decode cX3_readNumbers 88 = .ok (.invokevirtual 71, 3) := by decide +kernel
theorem dX3_readNumbers_91 : decode cX3_readNumbers 91 = .ok (.ireturn, 1) := by decide +kernel
theorem dX3_readNumbers_92 : decode cX3_readNumbers 92 = .ok (.aload_n 0, 1) := by decide +kernel
theorem dX3_readNumbers_93 : decode cX3_readNumbers 93 = .ok (.aload_n 2, 1) := by decide +kernel
theorem dX3_readNumbers_94 : decode cX3_readNumbers 94 = .ok (.invokevirtual 74, 3) := by decide +kernel
theorem dX3_readNumbers_97 : decode cX3_readNumbers 97 = .ok (.ireturn, 1) := by decide +kernel
theorem dX3_readNumbers_98 : decode cX3_readNumbers 98 = .ok (.aload_n 0, 1) := by decide +kernel
theorem dX3_readNumbers_99 : decode cX3_readNumbers 99 = .ok (.aload_n 2, 1) := by decide +kernel
theorem dX3_readNumbers_100 : decode cX3_readNumbers 100 = .ok (.invokevirtual 77, 3) := by decide +kernel
theorem dX3_readNumbers_103 : decode cX3_readNumbers 103 = .ok (.ireturn, 1) := by decide +kernel
theorem dX3_readNumbers_104 : decode cX3_readNumbers 104 = .ok (.iconst 0, 1) := by decide +kernel
theorem dX3_readNumbers_105 : decode cX3_readNumbers 105 = .ok (.ireturn, 1) := by decide +kernel
theorem dX3_readPlaces_0 : decode cX3_readPlaces 0 = .ok (.aload_n 0, 1) := by decide +kernel
theorem dX3_readPlaces_1 : decode cX3_readPlaces 1 = .ok (.iconst 2, 1) := by decide +kernel
theorem dX3_readPlaces_2 : decode cX3_readPlaces 2 = .ok (.bipush 8, 2) := by decide +kernel
theorem dX3_readPlaces_4 : decode cX3_readPlaces 4 = .ok (.bipush (-9), 2) := by decide +kernel
theorem dX3_readPlaces_6 : decode cX3_readPlaces 6 = .ok (.invokevirtual 80, 3) := by decide +kernel
theorem dX3_readPlaces_9 : decode cX3_readPlaces 9 = .ok (.istore_n 2, 1) := by decide +kernel
theorem dX3_readPlaces_10 : decode cX3_readPlaces 10 = .ok (.iload_n 2, 1) := by decide +kernel
theorem dX3_readPlaces_11 : decode cX3_readPlaces 11 = .ok (.iconst (-1), 1) := by decide +kernel
theorem dX3_readPlaces_12 : decode cX3_readPlaces 12 = .ok (.if_icmp .ne 5, 3) := by decide +kernel
theorem dX3_readPlaces_15 : decode cX3_readPlaces 15 = .ok (.iconst 0, 1) := by decide +kernel
theorem dX3_readPlaces_16 : decode cX3_readPlaces 16 = .ok (.ireturn, 1) := by decide +kernel
theorem dX3_readPlaces_17 : decode cX3_readPlaces 17 = .ok (.aload_n 1, 1) := by decide +kernel
theorem dX3_readPlaces_18 : decode cX3_readPlaces 18 = .ok (.iload_n 2, 1) := by decide +kernel
theorem dX3_readPlaces_19 : decode cX3_readPlaces 19 = .ok (.putfield 84, 3) := by decide +kernel
theorem dX3_readPlaces_22 : decode cX3_readPlaces 22 = .ok (.iconst 1, 1) := by decide +kernel
theorem dX3_readPlaces_23 : decode cX3_readPlaces 23 = .ok (.ireturn, 1) := by decide +kernel
theorem dX3_readRoad_0 : decode cX3_readRoad 0 = .ok (.aload_n 0, 1) := by decide +kernel
theorem dX3_readRoad_1 : decode cX3_readRoad 1 = .ok (.iconst 0, 1) := by decide +kernel
theorem dX3_readRoad_2 : decode cX3_readRoad 2 = .ok (.aload_n 1, 1) := by decide +kernel
theorem dX3_readRoad_3 : decode cX3_readRoad 3 = .ok (.getfield 84, 3) := by decide +kernel
theorem dX3_readRoad_6 : decode cX3_readRoad 6 = .ok (.iconst 1, 1) := by decide +kernel
theorem dX3_readRoad_7 : decode cX3_readRoad 7 = .ok (.isub, 1) := by decide +kernel
theorem dX3_readRoad_8 : decode cX3_readRoad 8 = .ok (.bipush (-9), 2) := by decide +kernel
theorem dX3_readRoad_10 : decode cX3_readRoad 10 = .ok (.invokevirtual 80, 3) := by decide +kernel
theorem dX3_readRoad_13 : decode cX3_readRoad 13 = .ok (.istore_n 2, 1) := by decide +kernel
theorem dX3_readRoad_14 : decode cX3_readRoad 14 = .ok (.iload_n 2, 1) := by decide +kernel
theorem dX3_readRoad_15 : decode cX3_readRoad 15 = .ok (.iconst (-1), 1) := by decide +kernel
theorem dX3_readRoad_16 : decode cX3_readRoad 16 = .ok (.if_icmp .ne 5, 3) := by decide +kernel
theorem dX3_readRoad_19 : decode cX3_readRoad 19 = .ok (.iconst 0, 1) := by decide +kernel
theorem dX3_readRoad_20 : decode cX3_readRoad 20 = .ok (.ireturn, 1) := by decide +kernel
theorem dX3_readRoad_21 : decode cX3_readRoad 21 = .ok (.aload_n 0, 1) := by decide +kernel
theorem dX3_readRoad_22 : decode cX3_readRoad 22 = .ok (.iconst 0, 1) := by decide +kernel
theorem dX3_readRoad_23 : decode cX3_readRoad 23 = .ok (.aload_n 1, 1) := by decide +kernel
theorem dX3_readRoad_24 : decode cX3_readRoad 24 = .ok (.getfield 84, 3) := by decide +kernel
theorem dX3_readRoad_27 : decode cX3_readRoad 27 = .ok (.iconst 1, 1) := by decide +kernel
theorem dX3_readRoad_28 : decode cX3_readRoad 28 = .ok (.isub, 1) := by decide +kernel
theorem dX3_readRoad_29 : decode cX3_readRoad 29 = .ok (.iload_n 2, 1) := by decide +kernel
theorem dX3_readRoad_30 : decode cX3_readRoad 30 = .ok (.invokevirtual 80, 3) := by decide +kernel
theorem dX3_readRoad_33 : decode cX3_readRoad 33 = .ok (.istore_n 3, 1) := by decide +kernel
theorem dX3_readRoad_34 : decode cX3_readRoad 34 = .ok (.iload_n 3, 1) := by decide +kernel
theorem dX3_readRoad_35 : decode cX3_readRoad 35 = .ok (.iconst (-1), 1) := by decide +kernel
theorem dX3_readRoad_36 : decode cX3_readRoad 36 = .ok (.if_icmp .ne 5, 3) := by decide +kernel
theorem dX3_readRoad_39 : decode cX3_readRoad 39 = .ok (.iconst 0, 1) := by decide +kernel
theorem dX3_readRoad_40 : decode cX3_readRoad 40 = .ok (.ireturn, 1) := by decide +kernel
theorem dX3_readRoad_41 : decode cX3_readRoad 41 = .ok (.aload_n 0, 1) := by decide +kernel
theorem dX3_readRoad_42 : decode cX3_readRoad 42 = .ok (.iconst 1, 1) := by decide +kernel
theorem dX3_readRoad_43 : decode cX3_readRoad 43 = .ok (.bipush 60, 2) := by decide +kernel
theorem dX3_readRoad_45 : decode cX3_readRoad 45 = .ok (.bipush (-9), 2) := by decide +kernel
theorem dX3_readRoad_47 : decode cX3_readRoad 47 = .ok (.invokevirtual 80, 3) := by decide +kernel
theorem dX3_readRoad_50 : decode cX3_readRoad 50 = .ok (.istore 4, 2) := by decide +kernel
theorem dX3_readRoad_52 : decode cX3_readRoad 52 = .ok (.iload 4, 2) := by decide +kernel
theorem dX3_readRoad_54 : decode cX3_readRoad 54 = .ok (.iconst (-1), 1) := by decide +kernel
theorem dX3_readRoad_55 : decode cX3_readRoad 55 = .ok (.if_icmp .ne 5, 3) := by decide +kernel
theorem dX3_readRoad_58 : decode cX3_readRoad 58 = .ok (.iconst 0, 1) := by decide +kernel
theorem dX3_readRoad_59 : decode cX3_readRoad 59 = .ok (.ireturn, 1) := by decide +kernel
theorem dX3_readRoad_60 : decode cX3_readRoad 60 = .ok (.aload_n 1, 1) := by decide +kernel
theorem dX3_readRoad_61 : decode cX3_readRoad 61 = .ok (.iload_n 2, 1) := by decide +kernel
theorem dX3_readRoad_62 : decode cX3_readRoad 62 = .ok (.iload_n 3, 1) := by decide +kernel
theorem dX3_readRoad_63 : decode cX3_readRoad 63 = .ok (.iload 4, 2) := by decide +kernel
theorem dX3_readRoad_65 : decode cX3_readRoad 65 = .ok (.invokevirtual 87, 3) := by decide +kernel
theorem dX3_readRoad_68 : decode cX3_readRoad 68 = .ok (.iconst 1, 1) := by decide +kernel
theorem dX3_readRoad_69 : decode cX3_readRoad 69 = .ok (.ireturn, 1) := by decide +kernel
theorem dX3_readStraight_0 : decode cX3_readStraight 0 = .ok (.aload_n 0, 1) := by decide +kernel
theorem dX3_readStraight_1 : decode cX3_readStraight 1 = .ok (.iconst 0, 1) := by decide +kernel
theorem dX3_readStraight_2 : decode cX3_readStraight 2 = .ok (.aload_n 1, 1) := by decide +kernel
theorem dX3_readStraight_3 : decode cX3_readStraight 3 = .ok (.getfield 58, 3) := by decide +kernel
theorem dX3_readStraight_6 : decode cX3_readStraight 6 = .ok (.iconst 1, 1) := by decide +kernel
theorem dX3_readStraight_7 : decode cX3_readStraight 7 = .ok (.isub, 1) := by decide +kernel
theorem dX3_readStraight_8 : decode cX3_readStraight 8 = .ok (.bipush (-9), 2) := by decide +kernel
theorem dX3_readStraight_10 : decode cX3_readStraight 10 = .ok (.invokevirtual 80, 3) := by decide +kernel
theorem dX3_readStraight_13 : decode cX3_readStraight 13 = .ok (.istore_n 2, 1) := by decide +kernel
theorem dX3_readStraight_14 : decode cX3_readStraight 14 = .ok (.iload_n 2, 1) := by decide +kernel
theorem dX3_readStraight_15 : decode cX3_readStraight 15 = .ok (.iconst (-1), 1) := by decide +kernel
theorem dX3_readStraight_16 : decode cX3_readStraight 16 = .ok (.if_icmp .ne 5, 3) := by decide +kernel
theorem dX3_readStraight_19 : decode cX3_readStraight 19 = .ok (.iconst 0, 1) := by decide +kernel
theorem dX3_readStraight_20 : decode cX3_readStraight 20 = .ok (.ireturn, 1) := by decide +kernel
theorem dX3_readStraight_21 : decode cX3_readStraight 21 = .ok (.aload_n 0, 1) := by decide +kernel
theorem dX3_readStraight_22 : decode cX3_readStraight 22 = .ok (.iconst 0, 1) := by decide +kernel
theorem dX3_readStraight_23 : decode cX3_readStraight 23 = .ok (.aload_n 1, 1) := by decide +kernel
theorem dX3_readStraight_24 : decode cX3_readStraight 24 = .ok (.getfield 58, 3) := by decide +kernel
theorem dX3_readStraight_27 : decode cX3_readStraight 27 = .ok (.iconst 1, 1) := by decide +kernel
theorem dX3_readStraight_28 : decode cX3_readStraight 28 = .ok (.isub, 1) := by decide +kernel
theorem dX3_readStraight_29 : decode cX3_readStraight 29 = .ok (.iload_n 2, 1) := by decide +kernel
theorem dX3_readStraight_30 : decode cX3_readStraight 30 = .ok (.invokevirtual 80, 3) := by decide +kernel
theorem dX3_readStraight_33 : decode cX3_readStraight 33 = .ok (.istore_n 3, 1) := by decide +kernel
theorem dX3_readStraight_34 : decode cX3_readStraight 34 = .ok (.iload_n 3, 1) := by decide +kernel
theorem dX3_readStraight_35 : decode cX3_readStraight 35 = .ok (.iconst (-1), 1) := by decide +kernel
theorem dX3_readStraight_36 : decode cX3_readStraight 36 = .ok (.if_icmp .ne 5, 3) := by decide +kernel
theorem dX3_readStraight_39 : decode cX3_readStraight 39 = .ok (.iconst 0, 1) := by decide +kernel
theorem dX3_readStraight_40 : decode cX3_readStraight 40 = .ok (.ireturn, 1) := by decide +kernel
theorem dX3_readStraight_41 : decode cX3_readStraight 41 = .ok (.aload_n 1, 1) := by decide +kernel
theorem dX3_readStraight_42 : decode cX3_readStraight 42 = .ok (.iload_n 2, 1) := by decide +kernel
theorem dX3_readStraight_43 : decode cX3_readStraight 43 = .ok (.iload_n 3, 1) := by decide +kernel
theorem dX3_readStraight_44 : decode cX3_readStraight 44 = .ok (.invokevirtual 91, 3) := by decide +kernel
theorem dX3_readStraight_47 : decode cX3_readStraight 47 = .ok (.iconst 1, 1) := by decide +kernel
theorem dX3_readStraight_48 : decode cX3_readStraight 48 = .ok (.ireturn, 1) := by decide +kernel
theorem dX3_readGoal_0 : decode cX3_readGoal 0 = .ok (.aload_n 0, 1) := by decide +kernel
theorem dX3_readGoal_1 : decode cX3_readGoal 1 = .ok (.iconst 0, 1) := by decide +kernel
theorem dX3_readGoal_2 : decode cX3_readGoal 2 = .ok (.aload_n 1, 1) := by decide +kernel
theorem dX3_readGoal_3 : decode cX3_readGoal 3 = .ok (.getfield 84, 3) := by decide +kernel
theorem dX3_readGoal_6 : decode cX3_readGoal 6 = .ok (.iconst 1, 1) := by decide +kernel
theorem dX3_readGoal_7 : decode cX3_readGoal 7 = .ok (.isub, 1) := by decide +kernel
theorem dX3_readGoal_8 : decode cX3_readGoal 8 = .ok (.bipush (-9), 2) := by decide +kernel
theorem dX3_readGoal_10 : decode cX3_readGoal 10 = .ok (.invokevirtual 80, 3) := by decide +kernel
theorem dX3_readGoal_13 : decode cX3_readGoal 13 = .ok (.istore_n 2, 1) := by decide +kernel
theorem dX3_readGoal_14 : decode cX3_readGoal 14 = .ok (.iload_n 2, 1) := by decide +kernel
theorem dX3_readGoal_15 : decode cX3_readGoal 15 = .ok (.iconst (-1), 1) := by decide +kernel
theorem dX3_readGoal_16 : decode cX3_readGoal 16 = .ok (.if_icmp .ne 5, 3) := by decide +kernel
theorem dX3_readGoal_19 : decode cX3_readGoal 19 = .ok (.iconst 0, 1) := by decide +kernel
theorem dX3_readGoal_20 : decode cX3_readGoal 20 = .ok (.ireturn, 1) := by decide +kernel
theorem dX3_readGoal_21 : decode cX3_readGoal 21 = .ok (.aload_n 0, 1) := by decide +kernel
theorem dX3_readGoal_22 : decode cX3_readGoal 22 = .ok (.iconst 0, 1) := by decide +kernel
theorem dX3_readGoal_23 : decode cX3_readGoal 23 = .ok (.aload_n 1, 1) := by decide +kernel
theorem dX3_readGoal_24 : decode cX3_readGoal 24 = .ok (.getfield 84, 3) := by decide +kernel
theorem dX3_readGoal_27 : decode cX3_readGoal 27 = .ok (.iconst 1, 1) := by decide +kernel
theorem dX3_readGoal_28 : decode cX3_readGoal 28 = .ok (.isub, 1) := by decide +kernel
theorem dX3_readGoal_29 : decode cX3_readGoal 29 = .ok (.bipush (-9), 2) := by decide +kernel
theorem dX3_readGoal_31 : decode cX3_readGoal 31 = .ok (.invokevirtual 80, 3) := by decide +kernel
theorem dX3_readGoal_34 : decode cX3_readGoal 34 = .ok (.istore_n 3, 1) := by decide +kernel
theorem dX3_readGoal_35 : decode cX3_readGoal 35 = .ok (.iload_n 3, 1) := by decide +kernel
theorem dX3_readGoal_36 : decode cX3_readGoal 36 = .ok (.iconst (-1), 1) := by decide +kernel
theorem dX3_readGoal_37 : decode cX3_readGoal 37 = .ok (.if_icmp .ne 5, 3) := by decide +kernel
theorem dX3_readGoal_40 : decode cX3_readGoal 40 = .ok (.iconst 0, 1) := by decide +kernel
theorem dX3_readGoal_41 : decode cX3_readGoal 41 = .ok (.ireturn, 1) := by decide +kernel
theorem dX3_readGoal_42 : decode cX3_readGoal 42 = .ok (.aload_n 1, 1) := by decide +kernel
theorem dX3_readGoal_43 : decode cX3_readGoal 43 = .ok (.iload_n 2, 1) := by decide +kernel
theorem dX3_readGoal_44 : decode cX3_readGoal 44 = .ok (.putfield 95, 3) := by decide +kernel
theorem dX3_readGoal_47 : decode cX3_readGoal 47 = .ok (.aload_n 1, 1) := by decide +kernel
theorem dX3_readGoal_48 : decode cX3_readGoal 48 = .ok (.iload_n 3, 1) := by decide +kernel
theorem dX3_readGoal_49 : decode cX3_readGoal 49 = .ok (.putfield 98, 3) := by decide +kernel
theorem dX3_readGoal_52 : decode cX3_readGoal 52 = .ok (.aload_n 0, 1) := by decide +kernel
theorem dX3_readGoal_53 : decode cX3_readGoal 53 = .ok (.iconst 1, 1) := by decide +kernel
theorem dX3_readGoal_54 : decode cX3_readGoal 54 = .ok (.putfield 24, 3) := by decide +kernel
theorem dX3_readGoal_57 : decode cX3_readGoal 57 = .ok (.iconst 1, 1) := by decide +kernel
theorem dX3_readGoal_58 : decode cX3_readGoal 58 = .ok (.ireturn, 1) := by decide +kernel
theorem dX3_readNerves_0 : decode cX3_readNerves 0 = .ok (.aload_n 0, 1) := by decide +kernel
theorem dX3_readNerves_1 : decode cX3_readNerves 1 = .ok (.iconst 0, 1) := by decide +kernel
theorem dX3_readNerves_2 : decode cX3_readNerves 2 = .ok (.bipush 20, 2) := by decide +kernel
theorem dX3_readNerves_4 : decode cX3_readNerves 4 = .ok (.bipush (-9), 2) := by decide +kernel
theorem dX3_readNerves_6 : decode cX3_readNerves 6 = .ok (.invokevirtual 80, 3) := by decide +kernel
theorem dX3_readNerves_9 : decode cX3_readNerves 9 = .ok (.istore_n 2, 1) := by decide +kernel
theorem dX3_readNerves_10 : decode cX3_readNerves 10 = .ok (.iload_n 2, 1) := by decide +kernel
theorem dX3_readNerves_11 : decode cX3_readNerves 11 = .ok (.iconst (-1), 1) := by decide +kernel
theorem dX3_readNerves_12 : decode cX3_readNerves 12 = .ok (.if_icmp .ne 5, 3) := by decide +kernel
theorem dX3_readNerves_15 : decode cX3_readNerves 15 = .ok (.iconst 0, 1) := by decide +kernel
theorem dX3_readNerves_16 : decode cX3_readNerves 16 = .ok (.ireturn, 1) := by decide +kernel
theorem dX3_readNerves_17 : decode cX3_readNerves 17 = .ok (.aload_n 1, 1) := by decide +kernel
theorem dX3_readNerves_18 : decode cX3_readNerves 18 = .ok (.iload_n 2, 1) := by decide +kernel
theorem dX3_readNerves_19 : decode cX3_readNerves 19 = .ok (.putfield 101, 3) := by decide +kernel
theorem dX3_readNerves_22 : decode cX3_readNerves 22 = .ok (.aload_n 0, 1) := by decide +kernel
theorem dX3_readNerves_23 : decode cX3_readNerves 23 = .ok (.iconst 1, 1) := by decide +kernel
theorem dX3_readNerves_24 : decode cX3_readNerves 24 = .ok (.putfield 28, 3) := by decide +kernel
theorem dX3_readNerves_27 : decode cX3_readNerves 27 = .ok (.iconst 1, 1) := by decide +kernel
theorem dX3_readNerves_28 : decode cX3_readNerves 28 = .ok (.ireturn, 1) := by decide +kernel
theorem dX3_readLoad_0 : decode cX3_readLoad 0 = .ok (.aload_n 0, 1) := by decide +kernel
theorem dX3_readLoad_1 : decode cX3_readLoad 1 = .ok (.iconst 0, 1) := by decide +kernel
theorem dX3_readLoad_2 : decode cX3_readLoad 2 = .ok (.bipush 9, 2) := by decide +kernel
theorem dX3_readLoad_4 : decode cX3_readLoad 4 = .ok (.bipush (-9), 2) := by decide +kernel
theorem dX3_readLoad_6 : decode cX3_readLoad 6 = .ok (.invokevirtual 80, 3) := by decide +kernel
theorem dX3_readLoad_9 : decode cX3_readLoad 9 = .ok (.istore_n 2, 1) := by decide +kernel
theorem dX3_readLoad_10 : decode cX3_readLoad 10 = .ok (.iload_n 2, 1) := by decide +kernel
theorem dX3_readLoad_11 : decode cX3_readLoad 11 = .ok (.iconst (-1), 1) := by decide +kernel
theorem dX3_readLoad_12 : decode cX3_readLoad 12 = .ok (.if_icmp .ne 5, 3) := by decide +kernel
theorem dX3_readLoad_15 : decode cX3_readLoad 15 = .ok (.iconst 0, 1) := by decide +kernel
theorem dX3_readLoad_16 : decode cX3_readLoad 16 = .ok (.ireturn, 1) := by decide +kernel
theorem dX3_readLoad_17 : decode cX3_readLoad 17 = .ok (.aload_n 1, 1) := by decide +kernel
theorem dX3_readLoad_18 : decode cX3_readLoad 18 = .ok (.iload_n 2, 1) := by decide +kernel
theorem dX3_readLoad_19 : decode cX3_readLoad 19 = .ok (.putfield 104, 3) := by decide +kernel
theorem dX3_readLoad_22 : decode cX3_readLoad 22 = .ok (.aload_n 0, 1) := by decide +kernel
theorem dX3_readLoad_23 : decode cX3_readLoad 23 = .ok (.iconst 1, 1) := by decide +kernel
theorem dX3_readLoad_24 : decode cX3_readLoad 24 = .ok (.putfield 31, 3) := by decide +kernel
theorem dX3_readLoad_27 : decode cX3_readLoad 27 = .ok (.iconst 1, 1) := by decide +kernel
theorem dX3_readLoad_28 : decode cX3_readLoad 28 = .ok (.ireturn, 1) := by decide +kernel
theorem dX3_readNumber_0 : decode cX3_readNumber 0 = .ok (.aload_n 0, 1) := by decide +kernel
theorem dX3_readNumber_1 : decode cX3_readNumber 1 = .ok (.getfield 40, 3) := by decide +kernel
theorem dX3_readNumber_4 : decode cX3_readNumber 4 = .ok (.iconst (-1), 1) := by decide +kernel
theorem dX3_readNumber_5 : decode cX3_readNumber 5 = .ok (.if_icmp .ne 23, 3) := by decide +kernel
theorem dX3_readNumber_8 : decode cX3_readNumber 8 = .ok (.aload_n 0, 1) := by decide +kernel
theorem dX3_readNumber_9 : decode cX3_readNumber 9 = .ok (.getfield 107, 3) := by decide +kernel
theorem dX3_readNumber_12 : decode cX3_readNumber 12 = .ok (.iload_n 1, 1) := by decide +kernel
theorem dX3_readNumber_13 : decode cX3_readNumber 13 = .ok (.iload_n 2, 1) := by decide +kernel
theorem dX3_readNumber_14 : decode cX3_readNumber 14 = .ok (.invokestatic 110, 3) := by decide +kernel
theorem dX3_readNumber_17 : decode cX3_readNumber 17 = .ok (.ifCond .eq 11, 3) := by decide +kernel
theorem dX3_readNumber_20 : decode cX3_readNumber 20 = .ok (.aload_n 0, 1) := by decide +kernel
theorem dX3_readNumber_21 : decode cX3_readNumber 21 = .ok (.getfield 107, 3) := by decide +kernel
theorem dX3_readNumber_24 : decode cX3_readNumber 24 = .ok (.iload_n 3, 1) := by decide +kernel
theorem dX3_readNumber_25 : decode cX3_readNumber 25 = .ok (.if_icmp .ne 5, 3) := by decide +kernel
theorem dX3_readNumber_28 : decode cX3_readNumber 28 = .ok (.iconst (-1), 1) := by decide +kernel
theorem dX3_readNumber_29 : decode cX3_readNumber 29 = .ok (.ireturn, 1) := by decide +kernel
theorem dX3_readNumber_30 : decode cX3_readNumber 30 = .ok (.aload_n 0, 1) := by decide +kernel
theorem dX3_readNumber_31 : decode cX3_readNumber 31 = .ok (.getfield 107, 3) := by decide +kernel
theorem dX3_readNumber_34 : decode cX3_readNumber 34 = .ok (.istore 4, 2) := by decide +kernel
theorem dX3_readNumber_36 : decode cX3_readNumber 36 = .ok (.aload_n 0, 1) := by decide +kernel
theorem dX3_readNumber_37 : decode cX3_readNumber 37 = .ok (.invokevirtual 37, 3) := by decide +kernel
theorem dX3_readNumber_40 : decode cX3_readNumber 40 = .ok (.iload 4, 2) := by decide +kernel
theorem dX3_readNumber_42 : decode cX3_readNumber 42 = .ok (.ireturn, 1) := by decide +kernel
theorem dX3_readToken_0 : decode cX3_readToken 0 = .ok (.aload_n 0, 1) := by decide +kernel
theorem dX3_readToken_1 : decode cX3_readToken 1 = .ok (.getfield 34, 3) := by decide +kernel
theorem dX3_readToken_4 : decode cX3_readToken 4 = .ok (.aload_n 0, 1) := by decide +kernel
theorem dX3_readToken_5 : decode cX3_readToken 5 = .ok (.getfield 15, 3) := by decide +kernel
theorem dX3_readToken_8 : decode cX3_readToken 8 = .ok (.if_icmp .ge 30, 3) := by decide +kernel
theorem dX3_readToken_11 : decode cX3_readToken 11 = .ok (.aload_n 0, 1) := by decide +kernel
theorem dX3_readToken_12 : decode cX3_readToken 12 = .ok (.getfield 9, 3) := by decide +kernel
theorem dX3_readToken_15 : decode cX3_readToken 15 = .ok (.aload_n 0, 1) := by decide +kernel
theorem dX3_readToken_16 : decode cX3_readToken 16 = .ok (.getfield 34, 3) := by decide +kernel
theorem dX3_readToken_19 : decode cX3_readToken 19 = .ok (.iaload, 1) := by decide +kernel
theorem dX3_readToken_20 : decode cX3_readToken 20 = .ok (.bipush 32, 2) := by decide +kernel
theorem dX3_readToken_22 : decode cX3_readToken 22 = .ok (.if_icmp .ne 16, 3) := by decide +kernel
theorem dX3_readToken_25 : decode cX3_readToken 25 = .ok (.aload_n 0, 1) := by decide +kernel
theorem dX3_readToken_26 : decode cX3_readToken 26 = .ok (.dup, 1) := by decide +kernel
theorem dX3_readToken_27 : decode cX3_readToken 27 = .ok (.getfield 34, 3) := by decide +kernel
theorem dX3_readToken_30 : decode cX3_readToken 30 = .ok (.iconst 1, 1) := by decide +kernel
theorem dX3_readToken_31 : decode cX3_readToken 31 = .ok (.iadd, 1) := by decide +kernel
theorem dX3_readToken_32 : decode cX3_readToken 32 = .ok (.putfield 34, 3) := by decide +kernel
theorem dX3_readToken_35 : decode cX3_readToken 35 = .ok (.goto (-35), 3) := by decide +kernel
theorem dX3_readToken_38 : decode cX3_readToken 38 = .ok (.aload_n 0, 1) := by decide +kernel
theorem dX3_readToken_39 : decode cX3_readToken 39 = .ok (.aload_n 0, 1) := by decide +kernel
theorem dX3_readToken_40 : decode cX3_readToken 40 = .ok (.getfield 34, 3) := by decide +kernel
theorem dX3_readToken_43 : decode cX3_readToken 43 = .ok (.putfield 47, 3) := by decide +kernel
theorem dX3_readToken_46 : decode cX3_readToken 46 = .ok (.aload_n 0, 1) := by decide +kernel
theorem dX3_readToken_47 : decode cX3_readToken 47 = .ok (.getfield 34, 3) := by decide +kernel
theorem dX3_readToken_50 : decode cX3_readToken 50 = .ok (.aload_n 0, 1) := by decide +kernel
theorem dX3_readToken_51 : decode cX3_readToken 51 = .ok (.getfield 15, 3) := by decide +kernel
theorem dX3_readToken_54 : decode cX3_readToken 54 = .ok (.if_icmp .lt 12, 3) := by decide +kernel
theorem dX3_readToken_57 : decode cX3_readToken 57 = .ok (.aload_n 0, 1) := by decide +kernel
theorem dX3_readToken_58 : decode cX3_readToken 58 = .ok (.bipush (-2), 2) := by decide +kernel
theorem dX3_readToken_60 : decode cX3_readToken 60 = .ok (.putfield 40, 3) := by decide +kernel
theorem dX3_readToken_63 : decode cX3_readToken 63 = .ok (.goto 68, 3) := by decide +kernel
theorem dX3_readToken_66 : decode cX3_readToken 66 = .ok (.aload_n 0, 1) := by decide +kernel
theorem dX3_readToken_67 : decode cX3_readToken 67 = .ok (.getfield 9, 3) := by decide +kernel
theorem dX3_readToken_70 : decode cX3_readToken 70 = .ok (.aload_n 0, 1) := by decide +kernel
theorem dX3_readToken_71 : decode cX3_readToken 71 = .ok (.getfield 34, 3) := by decide +kernel
theorem dX3_readToken_74 : decode cX3_readToken 74 = .ok (.iaload, 1) := by decide +kernel
theorem dX3_readToken_75 : decode cX3_readToken 75 = .ok (.invokestatic 114, 3) := by decide +kernel
theorem dX3_readToken_78 : decode cX3_readToken 78 = .ok (.ifCond .eq 10, 3) := by decide +kernel
theorem dX3_readToken_81 : decode cX3_readToken 81 = .ok (.aload_n 0, 1) := by decide +kernel
theorem dX3_readToken_82 : decode cX3_readToken 82 = .ok (.invokevirtual 118, 3) := by decide +kernel
theorem dX3_readToken_85 : decode cX3_readToken 85 = .ok (.goto 46, 3) := by decide +kernel
theorem dX3_readToken_88 : decode cX3_readToken 88 = .ok (.aload_n 0, 1) := by decide +kernel
theorem dX3_readToken_89 : decode cX3_readToken 89 = .ok (.aload_n 0, 1) := by decide +kernel
theorem dX3_readToken_90 : decode cX3_readToken 90 = .ok (.getfield 9, 3) := by decide +kernel
theorem dX3_readToken_93 : decode cX3_readToken 93 = .ok (.aload_n 0, 1) := by decide +kernel
theorem dX3_readToken_94 : decode cX3_readToken 94 = .ok (.getfield 34, 3) := by decide +kernel
theorem dX3_readToken_97 : decode cX3_readToken 97 = .ok (.iaload, 1) := by decide +kernel
theorem dX3_readToken_98 : decode cX3_readToken 98 = .ok (.invokestatic 121, 3) := by decide +kernel
theorem dX3_readToken_101 : decode cX3_readToken 101 = .ok (.ifCond .eq 15, 3) := by decide +kernel
theorem dX3_readToken_104 : decode cX3_readToken 104 = .ok (.aload_n 0, 1) := by decide +kernel
theorem dX3_readToken_105 : decode cX3_readToken 105 = .ok (.getfield 9, 3) := by decide +kernel
theorem dX3_readToken_108 : decode cX3_readToken 108 = .ok (.aload_n 0, 1) := by decide +kernel
theorem dX3_readToken_109 : decode cX3_readToken 109 = .ok (.getfield 34, 3) := by decide +kernel
theorem dX3_readToken_112 : decode cX3_readToken 112 = .ok (.iaload, 1) := by decide +kernel
theorem dX3_readToken_113 : decode cX3_readToken 113 = .ok (.goto 5, 3) := by decide +kernel
theorem dX3_readToken_116 : decode cX3_readToken 116 = .ok (.bipush (-3), 2) := by decide +kernel
theorem dX3_readToken_118 : decode cX3_readToken 118 = .ok (.putfield 40, 3) := by decide +kernel
theorem dX3_readToken_121 : decode cX3_readToken 121 = .ok (.aload_n 0, 1) := by decide +kernel
theorem dX3_readToken_122 : decode cX3_readToken 122 = .ok (.dup, 1) := by decide +kernel
theorem dX3_readToken_123 : decode cX3_readToken 123 = .ok (.getfield 34, 3) := by decide +kernel
theorem dX3_readToken_126 : decode cX3_readToken 126 = .ok (.iconst 1, 1) := by decide +kernel
theorem dX3_readToken_127 : decode cX3_readToken 127 = .ok (.iadd, 1) := by decide +kernel
theorem dX3_readToken_128 : decode cX3_readToken 128 = .ok (.putfield 34, 3) := by decide +kernel
theorem dX3_readToken_131 : decode cX3_readToken 131 = .ok (.return_, 1) := by decide +kernel
theorem dX3_readDigits_0 : decode cX3_readDigits 0 = .ok (.aload_n 0, 1) := by decide +kernel
theorem dX3_readDigits_1 : decode cX3_readDigits 1 = .ok (.getfield 34, 3) := by decide +kernel
theorem dX3_readDigits_4 : decode cX3_readDigits 4 = .ok (.istore_n 1, 1) := by decide +kernel
theorem dX3_readDigits_5 : decode cX3_readDigits 5 = .ok (.aload_n 0, 1) := by decide +kernel
theorem dX3_readDigits_6 : decode cX3_readDigits 6 = .ok (.iconst 0, 1) := by decide +kernel
theorem dX3_readDigits_7 : decode cX3_readDigits 7 = .ok (.putfield 107, 3) := by decide +kernel
theorem dX3_readDigits_10 : decode cX3_readDigits 10 = .ok (.aload_n 0, 1) := by decide +kernel
theorem dX3_readDigits_11 : decode cX3_readDigits 11 = .ok (.getfield 34, 3) := by decide +kernel
theorem dX3_readDigits_14 : decode cX3_readDigits 14 = .ok (.aload_n 0, 1) := by decide +kernel
theorem dX3_readDigits_15 : decode cX3_readDigits 15 = .ok (.getfield 15, 3) := by decide +kernel
theorem dX3_readDigits_18 : decode cX3_readDigits 18 = .ok (.if_icmp .ge 65, 3) := by decide +kernel
theorem dX3_readDigits_21 : decode cX3_readDigits 21 = .ok (.aload_n 0, 1) := by decide +kernel
theorem dX3_readDigits_22 : decode cX3_readDigits 22 = .ok (.getfield 9, 3) := by decide +kernel
theorem dX3_readDigits_25 : decode cX3_readDigits 25 = .ok (.aload_n 0, 1) := by decide +kernel
theorem dX3_readDigits_26 : decode cX3_readDigits 26 = .ok (.getfield 34, 3) := by decide +kernel
theorem dX3_readDigits_29 : decode cX3_readDigits 29 = .ok (.iaload, 1) := by decide +kernel
theorem dX3_readDigits_30 : decode cX3_readDigits 30 = .ok (.invokestatic 114, 3) := by decide +kernel
theorem dX3_readDigits_33 : decode cX3_readDigits 33 = .ok (.ifCond .eq 50, 3) := by decide +kernel
theorem dX3_readDigits_36 : decode cX3_readDigits 36 = .ok (.aload_n 0, 1) := by decide +kernel
theorem dX3_readDigits_37 : decode cX3_readDigits 37 = .ok (.getfield 34, 3) := by decide +kernel
theorem dX3_readDigits_40 : decode cX3_readDigits 40 = .ok (.iload_n 1, 1) := by decide +kernel
theorem dX3_readDigits_41 : decode cX3_readDigits 41 = .ok (.isub, 1) := by decide +kernel
theorem dX3_readDigits_42 : decode cX3_readDigits 42 = .ok (.iconst 2, 1) := by decide +kernel
theorem dX3_readDigits_43 : decode cX3_readDigits 43 = .ok (.if_icmp .ge 27, 3) := by decide +kernel
theorem dX3_readDigits_46 : decode cX3_readDigits 46 = .ok (.aload_n 0, 1) := by decide +kernel
theorem dX3_readDigits_47 : decode cX3_readDigits 47 = .ok (.aload_n 0, 1) := by decide +kernel
theorem dX3_readDigits_48 : decode cX3_readDigits 48 = .ok (.getfield 107, 3) := by decide +kernel
theorem dX3_readDigits_51 : decode cX3_readDigits 51 = .ok (.bipush 10, 2) := by decide +kernel
theorem dX3_readDigits_53 : decode cX3_readDigits 53 = .ok (.imul, 1) := by decide +kernel
theorem dX3_readDigits_54 : decode cX3_readDigits 54 = .ok (.aload_n 0, 1) := by decide +kernel
theorem dX3_readDigits_55 : decode cX3_readDigits 55 = .ok (.getfield 9, 3) := by decide +kernel
theorem dX3_readDigits_58 : decode cX3_readDigits 58 = .ok (.aload_n 0, 1) := by decide +kernel
theorem dX3_readDigits_59 : decode cX3_readDigits 59 = .ok (.getfield 34, 3) := by decide +kernel
theorem dX3_readDigits_62 : decode cX3_readDigits 62 = .ok (.iaload, 1) := by decide +kernel
theorem dX3_readDigits_63 : decode cX3_readDigits 63 = .ok (.iadd, 1) := by decide +kernel
theorem dX3_readDigits_64 : decode cX3_readDigits 64 = .ok (.bipush 48, 2) := by decide +kernel
theorem dX3_readDigits_66 : decode cX3_readDigits 66 = .ok (.isub, 1) := by decide +kernel
theorem dX3_readDigits_67 : decode cX3_readDigits 67 = .ok (.putfield 107, 3) := by decide +kernel
theorem dX3_readDigits_70 : decode cX3_readDigits 70 = .ok (.aload_n 0, 1) := by decide +kernel
theorem dX3_readDigits_71 : decode cX3_readDigits 71 = .ok (.dup, 1) := by decide +kernel
theorem dX3_readDigits_72 : decode cX3_readDigits 72 = .ok (.getfield 34, 3) := by decide +kernel
theorem dX3_readDigits_75 : decode cX3_readDigits 75 = .ok (.iconst 1, 1) := by decide +kernel
theorem dX3_readDigits_76 : decode cX3_readDigits 76 = .ok (.iadd, 1) := by decide +kernel
theorem dX3_readDigits_77 : decode cX3_readDigits 77 = .ok (.putfield 34, 3) := by decide +kernel
theorem dX3_readDigits_80 : decode cX3_readDigits 80 = .ok (.goto (-70), 3) := by decide +kernel
theorem dX3_readDigits_83 : decode cX3_readDigits 83 = .ok (.aload_n 0, 1) := by decide +kernel
theorem dX3_readDigits_84 : decode cX3_readDigits 84 = .ok (.getfield 34, 3) := by decide +kernel
theorem dX3_readDigits_87 : decode cX3_readDigits 87 = .ok (.iload_n 1, 1) := by decide +kernel
theorem dX3_readDigits_88 : decode cX3_readDigits 88 = .ok (.isub, 1) := by decide +kernel
theorem dX3_readDigits_89 : decode cX3_readDigits 89 = .ok (.istore_n 2, 1) := by decide +kernel
theorem dX3_readDigits_90 : decode cX3_readDigits 90 = .ok (.iload_n 2, 1) := by decide +kernel
theorem dX3_readDigits_91 : decode cX3_readDigits 91 = .ok (.iconst 1, 1) := by decide +kernel
theorem dX3_readDigits_92 : decode cX3_readDigits 92 = .ok (.if_icmp .le 18, 3) := by decide +kernel
theorem dX3_readDigits_95 : decode cX3_readDigits 95 = .ok (.aload_n 0, 1) := by decide +kernel
theorem dX3_readDigits_96 : decode cX3_readDigits 96 = .ok (.getfield 9, 3) := by decide +kernel
theorem dX3_readDigits_99 : decode cX3_readDigits 99 = .ok (.iload_n 1, 1) := by decide +kernel
theorem dX3_readDigits_100 : decode cX3_readDigits 100 = .ok (.iaload, 1) := by decide +kernel
theorem dX3_readDigits_101 : decode cX3_readDigits 101 = .ok (.bipush 48, 2) := by decide +kernel
theorem dX3_readDigits_103 : decode cX3_readDigits 103 = .ok (.if_icmp .ne 7, 3) := by decide +kernel
theorem dX3_readDigits_106 : decode cX3_readDigits 106 = .ok (.iconst 1, 1) := by decide +kernel
theorem dX3_readDigits_107 : decode cX3_readDigits 107 = .ok (.goto 4, 3) := by decide +kernel
theorem dX3_readDigits_110 : decode cX3_readDigits 110 = .ok (.iconst 0, 1) := by decide +kernel
theorem dX3_readDigits_111 : decode cX3_readDigits 111 = .ok (.istore_n 3, 1) := by decide +kernel
theorem dX3_readDigits_112 : decode cX3_readDigits 112 = .ok (.aload_n 0, 1) := by decide +kernel
theorem dX3_readDigits_113 : decode cX3_readDigits 113 = .ok (.iload_n 2, 1) := by decide +kernel
theorem dX3_readDigits_114 : decode cX3_readDigits 114 = .ok (.iconst 2, 1) := by decide +kernel
theorem dX3_readDigits_115 : decode cX3_readDigits 115 = .ok (.if_icmp .gt 7, 3) := by decide +kernel
theorem dX3_readDigits_118 : decode cX3_readDigits 118 = .ok (.iload_n 3, 1) := by decide +kernel
theorem dX3_readDigits_119 : decode cX3_readDigits 119 = .ok (.ifCond .eq 8, 3) := by decide +kernel
theorem dX3_readDigits_122 : decode cX3_readDigits 122 = .ok (.bipush (-3), 2) := by decide +kernel
theorem dX3_readDigits_124 : decode cX3_readDigits 124 = .ok (.goto 4, 3) := by decide +kernel
theorem dX3_readDigits_127 : decode cX3_readDigits 127 = .ok (.iconst (-1), 1) := by decide +kernel
theorem dX3_readDigits_128 : decode cX3_readDigits 128 = .ok (.putfield 40, 3) := by decide +kernel
theorem dX3_readDigits_131 : decode cX3_readDigits 131 = .ok (.return_, 1) := by decide +kernel
theorem dX3_isDigit_0 : decode cX3_isDigit 0 = .ok (.iload_n 0, 1) := by decide +kernel
theorem dX3_isDigit_1 : decode cX3_isDigit 1 = .ok (.bipush 48, 2) := by decide +kernel
theorem dX3_isDigit_3 : decode cX3_isDigit 3 = .ok (.bipush 57, 2) := by decide +kernel
theorem dX3_isDigit_5 : decode cX3_isDigit 5 = .ok (.invokestatic 110, 3) := by decide +kernel
theorem dX3_isDigit_8 : decode cX3_isDigit 8 = .ok (.ireturn, 1) := by decide +kernel
theorem dX3_isTokenLetter_0 : decode cX3_isTokenLetter 0 = .ok (.iload_n 0, 1) := by decide +kernel
theorem dX3_isTokenLetter_1 : decode cX3_isTokenLetter 1 = .ok (.lookupswitch 69 #[(59, 67), (103, 67), (108, 67), (110, 67), (112, 67), (114, 67), (115, 67)], 67) := by decide +kernel
theorem dX3_isTokenLetter_68 : decode cX3_isTokenLetter 68 = .ok (.iconst 1, 1) := by decide +kernel
theorem dX3_isTokenLetter_69 : decode cX3_isTokenLetter 69 = .ok (.ireturn, 1) := by decide +kernel
theorem dX3_isTokenLetter_70 : decode cX3_isTokenLetter 70 = .ok (.iconst 0, 1) := by decide +kernel
theorem dX3_isTokenLetter_71 : decode cX3_isTokenLetter 71 = .ok (.ireturn, 1) := by decide +kernel
theorem dX4_init_0 : decode cX4_init 0 = .ok (.aload_n 0, 1) := by decide +kernel
theorem dX4_init_1 : decode cX4_init 1 = .ok (.invokespecial 3, 3) := by decide +kernel
theorem dX4_init_4 : decode cX4_init 4 = .ok (.aload_n 0, 1) := by decide +kernel
theorem dX4_init_5 : decode cX4_init 5 = .ok (.bipush 12, 2) := by decide +kernel
theorem dX4_init_7 : decode cX4_init 7 = .ok (.newarray .int, 2) := by decide +kernel
theorem dX4_init_9 : decode cX4_init 9 = .ok (.putfield 9, 3) := by decide +kernel
theorem dX4_init_12 : decode cX4_init 12 = .ok (.aload_n 0, 1) := by decide +kernel
theorem dX4_init_13 : decode cX4_init 13 = .ok (.bipush 12, 2) := by decide +kernel
theorem dX4_init_15 : decode cX4_init 15 = .ok (.newarray .int, 2) := by decide +kernel
theorem dX4_init_17 : decode cX4_init 17 = .ok (.putfield 15, 3) := by decide +kernel
theorem dX4_init_20 : decode cX4_init 20 = .ok (.aload_n 0, 1) := by decide +kernel
theorem dX4_init_21 : decode cX4_init 21 = .ok (.bipush 12, 2) := by decide +kernel
theorem dX4_init_23 : decode cX4_init 23 = .ok (.newarray .int, 2) := by decide +kernel
theorem dX4_init_25 : decode cX4_init 25 = .ok (.putfield 18, 3) := by decide +kernel
theorem dX4_init_28 : decode cX4_init 28 = .ok (.aload_n 0, 1) := by decide +kernel
theorem dX4_init_29 : decode cX4_init 29 = .ok (.bipush 12, 2) := by decide +kernel
theorem dX4_init_31 : decode cX4_init 31 = .ok (.newarray .int, 2) := by decide +kernel
theorem dX4_init_33 : decode cX4_init 33 = .ok (.putfield 21, 3) := by decide +kernel
theorem dX4_init_36 : decode cX4_init 36 = .ok (.aload_n 0, 1) := by decide +kernel
theorem dX4_init_37 : decode cX4_init 37 = .ok (.invokevirtual 24, 3) := by decide +kernel
theorem dX4_init_40 : decode cX4_init 40 = .ok (.return_, 1) := by decide +kernel
theorem dX4_beAsAtFirst_0 : decode cX4_beAsAtFirst 0 = .ok (.aload_n 0, 1) := by decide +kernel
theorem dX4_beAsAtFirst_1 : decode cX4_beAsAtFirst 1 = .ok (.iconst 2, 1) := by decide +kernel
theorem dX4_beAsAtFirst_2 : decode cX4_beAsAtFirst 2 = .ok (.putfield 27, 3) := by decide +kernel
theorem dX4_beAsAtFirst_5 : decode cX4_beAsAtFirst 5 = .ok (.aload_n 0, 1) := by decide +kernel
theorem dX4_beAsAtFirst_6 : decode cX4_beAsAtFirst 6 = .ok (.iconst 0, 1) := by decide +kernel
theorem dX4_beAsAtFirst_7 : decode cX4_beAsAtFirst 7 = .ok (.putfield 31, 3) := by decide +kernel
theorem dX4_beAsAtFirst_10 : decode cX4_beAsAtFirst 10 = .ok (.aload_n 0, 1) := by decide +kernel
theorem dX4_beAsAtFirst_11 : decode cX4_beAsAtFirst 11 = .ok (.iconst 0, 1) := by decide +kernel
theorem dX4_beAsAtFirst_12 : decode cX4_beAsAtFirst 12 = .ok (.putfield 34, 3) := by decide +kernel
theorem dX4_beAsAtFirst_15 : decode cX4_beAsAtFirst 15 = .ok (.aload_n 0, 1) := by decide +kernel
theorem dX4_beAsAtFirst_16 : decode cX4_beAsAtFirst 16 = .ok (.iconst 1, 1) := by decide +kernel
theorem dX4_beAsAtFirst_17 : decode cX4_beAsAtFirst 17 = .ok (.putfield 37, 3) := by decide +kernel
theorem dX4_beAsAtFirst_20 : decode cX4_beAsAtFirst 20 = .ok (.aload_n 0, 1) := by decide +kernel
theorem dX4_beAsAtFirst_21 : decode cX4_beAsAtFirst 21 = .ok (.iconst 2, 1) := by decide +kernel
theorem dX4_beAsAtFirst_22 : decode cX4_beAsAtFirst 22 = .ok (.putfield 40, 3) := by decide +kernel
theorem dX4_beAsAtFirst_25 : decode cX4_beAsAtFirst 25 = .ok (.aload_n 0, 1) := by decide +kernel
theorem dX4_beAsAtFirst_26 : decode cX4_beAsAtFirst 26 = .ok (.iconst 1, 1) := by decide +kernel
theorem dX4_beAsAtFirst_27 : decode cX4_beAsAtFirst 27 = .ok (.putfield 43, 3) := by decide +kernel
theorem dX4_beAsAtFirst_30 : decode cX4_beAsAtFirst 30 = .ok (.return_, 1) := by decide +kernel
theorem dX4_addRoad_0 : decode cX4_addRoad 0 = .ok (.aload_n 0, 1) := by decide +kernel
theorem dX4_addRoad_1 : decode cX4_addRoad 1 = .ok (.getfield 9, 3) := by decide +kernel
theorem dX4_addRoad_4 : decode cX4_addRoad 4 = .ok (.aload_n 0, 1) := by decide +kernel
theorem dX4_addRoad_5 : decode cX4_addRoad 5 = .ok (.getfield 31, 3) := by decide +kernel
theorem dX4_addRoad_8 : decode cX4_addRoad 8 = .ok (.iload_n 1, 1) := by decide +kernel
theorem dX4_addRoad_9 : decode cX4_addRoad 9 = .ok (.iastore, 1) := by decide +kernel
theorem dX4_addRoad_10 : decode cX4_addRoad 10 = .ok (.aload_n 0, 1) := by decide +kernel
theorem dX4_addRoad_11 : decode cX4_addRoad 11 = .ok (.getfield 15, 3) := by decide +kernel
theorem dX4_addRoad_14 : decode cX4_addRoad 14 = .ok (.aload_n 0, 1) := by decide +kernel
theorem dX4_addRoad_15 : decode cX4_addRoad 15 = .ok (.getfield 31, 3) := by decide +kernel
theorem dX4_addRoad_18 : decode cX4_addRoad 18 = .ok (.iload_n 2, 1) := by decide +kernel
theorem dX4_addRoad_19 : decode cX4_addRoad 19 = .ok (.iastore, 1) := by decide +kernel
theorem dX4_addRoad_20 : decode cX4_addRoad 20 = .ok (.aload_n 0, 1) := by decide +kernel
theorem dX4_addRoad_21 : decode cX4_addRoad 21 = .ok (.getfield 18, 3) := by decide +kernel
theorem dX4_addRoad_24 : decode cX4_addRoad 24 = .ok (.aload_n 0, 1) := by decide +kernel
theorem dX4_addRoad_25 : decode cX4_addRoad 25 = .ok (.getfield 31, 3) := by decide +kernel
theorem dX4_addRoad_28 : decode cX4_addRoad 28 = .ok (.iload_n 3, 1) := by decide +kernel
theorem dX4_addRoad_29 : decode cX4_addRoad 29 = .ok (.iastore, 1) := by decide +kernel
theorem dX4_addRoad_30 : decode cX4_addRoad 30 = .ok (.aload_n 0, 1) := by decide +kernel
theorem dX4_addRoad_31 : decode cX4_addRoad 31 = .ok (.getfield 21, 3) := by decide +kernel
theorem dX4_addRoad_34 : decode cX4_addRoad 34 = .ok (.aload_n 0, 1) := by decide +kernel
theorem dX4_addRoad_35 : decode cX4_addRoad 35 = .ok (.getfield 31, 3) := by decide +kernel
theorem dX4_addRoad_38 : decode cX4_addRoad 38 = .ok (.iconst 0, 1) := by decide +kernel
end
section
theorem dX4_addRoad_39 : decode cX4_addRoad 39 = .ok (.iastore, 1) := by decide +kernel
theorem dX4_addRoad_40 : decode cX4_addRoad 40 = .ok (.aload_n 0, 1) := by decide +kernel
theorem dX4_addRoad_41 : decode cX4_addRoad 41 = .ok (.dup, 1) := by decide +kernel
theorem dX4_addRoad_42 : decode cX4_addRoad 42 = .ok (.getfield 31, 3) := by decide +kernel
theorem dX4_addRoad_45 : decode cX4_addRoad 45 = .ok (.iconst 1, 1) := by decide +kernel
theorem dX4_addRoad_46 : decode cX4_addRoad 46 = .ok (.iadd, 1) := by decide +kernel
theorem dX4_addRoad_47 : decode cX4_addRoad 47 = .ok (.putfield 31, 3) := by decide +kernel
theorem dX4_addRoad_50 : decode cX4_addRoad 50 = .ok (.return_, 1) := by decide +kernel
theorem dX4_makeStraight_0 : decode cX4_makeStraight 0 = .ok (.aload_n 0, 1) := by decide +kernel
theorem dX4_makeStraight_1 : decode cX4_makeStraight 1 = .ok (.getfield 21, 3) := by decide +kernel
theorem dX4_makeStraight_4 : decode cX4_makeStraight 4 = .ok (.iload_n 1, 1) := by decide +kernel
theorem dX4_makeStraight_5 : decode cX4_makeStraight 5 = .ok (.dup2, 1) := by decide +kernel
theorem dX4_makeStraight_6 : decode cX4_makeStraight 6 = .ok (.iaload, 1) := by decide +kernel
theorem dX4_makeStraight_7 : decode cX4_makeStraight 7 = .ok (.iconst 1, 1) := by decide +kernel
theorem dX4_makeStraight_8 : decode cX4_makeStraight 8 = .ok (.iload_n 2, 1) := by decide +kernel
theorem dX4_makeStraight_9 : decode cX4_makeStraight 9 = .ok (.ishl, 1) := by decide +kernel
theorem dX4_makeStraight_10 : decode cX4_makeStraight 10 = .ok (.ior, 1) := by decide +kernel
theorem dX4_makeStraight_11 : decode cX4_makeStraight 11 = .ok (.iastore, 1) := by decide +kernel
theorem dX4_makeStraight_12 : decode cX4_makeStraight 12 = .ok (.aload_n 0, 1) := by decide +kernel
theorem dX4_makeStraight_13 : decode cX4_makeStraight 13 = .ok (.getfield 21, 3) := by decide +kernel
theorem dX4_makeStraight_16 : decode cX4_makeStraight 16 = .ok (.iload_n 2, 1) := by decide +kernel
theorem dX4_makeStraight_17 : decode cX4_makeStraight 17 = .ok (.dup2, 1) := by decide +kernel
theorem dX4_makeStraight_18 : decode cX4_makeStraight 18 = .ok (.iaload, 1) := by decide +kernel
theorem dX4_makeStraight_19 : decode cX4_makeStraight 19 = .ok (.iconst 1, 1) := by decide +kernel
theorem dX4_makeStraight_20 : decode cX4_makeStraight 20 = .ok (.iload_n 1, 1) := by decide +kernel
theorem dX4_makeStraight_21 : decode cX4_makeStraight 21 = .ok (.ishl, 1) := by decide +kernel
theorem dX4_makeStraight_22 : decode cX4_makeStraight 22 = .ok (.ior, 1) := by decide +kernel
theorem dX4_makeStraight_23 : decode cX4_makeStraight 23 = .ok (.iastore, 1) := by decide +kernel
theorem dX4_makeStraight_24 : decode cX4_makeStraight 24 = .ok (.return_, 1) := by decide +kernel
theorem dX4_hasRoad_0 : decode cX4_hasRoad 0 = .ok (.iload_n 1, 1) := by decide +kernel
theorem dX4_hasRoad_1 : decode cX4_hasRoad 1 = .ok (.ifCond .lt 15, 3) := by decide +kernel
theorem dX4_hasRoad_4 : decode cX4_hasRoad 4 = .ok (.iload_n 1, 1) := by decide +kernel
theorem dX4_hasRoad_5 : decode cX4_hasRoad 5 = .ok (.aload_n 0, 1) := by decide +kernel
theorem dX4_hasRoad_6 : decode cX4_hasRoad 6 = .ok (.getfield 31, 3) := by decide +kernel
theorem dX4_hasRoad_9 : decode cX4_hasRoad 9 = .ok (.if_icmp .ge 7, 3) := by decide +kernel
theorem dX4_hasRoad_12 : decode cX4_hasRoad 12 = .ok (.iconst 1, 1) := by decide +kernel
theorem dX4_hasRoad_13 : decode cX4_hasRoad 13 = .ok (.goto 4, 3) := by decide +kernel
theorem dX4_hasRoad_16 : decode cX4_hasRoad 16 = .ok (.iconst 0, 1) := by decide +kernel
theorem dX4_hasRoad_17 : decode cX4_hasRoad 17 = .ok (.ireturn, 1) := by decide +kernel
theorem dX4_hasPlace_0 : decode cX4_hasPlace 0 = .ok (.iload_n 1, 1) := by decide +kernel
theorem dX4_hasPlace_1 : decode cX4_hasPlace 1 = .ok (.ifCond .lt 15, 3) := by decide +kernel
theorem dX4_hasPlace_4 : decode cX4_hasPlace 4 = .ok (.iload_n 1, 1) := by decide +kernel
theorem dX4_hasPlace_5 : decode cX4_hasPlace 5 = .ok (.aload_n 0, 1) := by decide +kernel
theorem dX4_hasPlace_6 : decode cX4_hasPlace 6 = .ok (.getfield 27, 3) := by decide +kernel
theorem dX4_hasPlace_9 : decode cX4_hasPlace 9 = .ok (.if_icmp .ge 7, 3) := by decide +kernel
theorem dX4_hasPlace_12 : decode cX4_hasPlace 12 = .ok (.iconst 1, 1) := by decide +kernel
theorem dX4_hasPlace_13 : decode cX4_hasPlace 13 = .ok (.goto 4, 3) := by decide +kernel
theorem dX4_hasPlace_16 : decode cX4_hasPlace 16 = .ok (.iconst 0, 1) := by decide +kernel
theorem dX4_hasPlace_17 : decode cX4_hasPlace 17 = .ok (.ireturn, 1) := by decide +kernel
theorem dX4_allRoads_0 : decode cX4_allRoads 0 = .ok (.iconst 1, 1) := by decide +kernel
theorem dX4_allRoads_1 : decode cX4_allRoads 1 = .ok (.aload_n 0, 1) := by decide +kernel
theorem dX4_allRoads_2 : decode cX4_allRoads 2 = .ok (.getfield 31, 3) := by decide +kernel
theorem dX4_allRoads_5 : decode cX4_allRoads 5 = .ok (.ishl, 1) := by decide +kernel
theorem dX4_allRoads_6 : decode cX4_allRoads 6 = .ok (.iconst 1, 1) := by decide +kernel
theorem dX4_allRoads_7 : decode cX4_allRoads 7 = .ok (.isub, 1) := by decide +kernel
theorem dX4_allRoads_8 : decode cX4_allRoads 8 = .ok (.ireturn, 1) := by decide +kernel
theorem dX4_meets_0 : decode cX4_meets 0 = .ok (.aload_n 0, 1) := by decide +kernel
theorem dX4_meets_1 : decode cX4_meets 1 = .ok (.getfield 9, 3) := by decide +kernel
theorem dX4_meets_4 : decode cX4_meets 4 = .ok (.iload_n 1, 1) := by decide +kernel
theorem dX4_meets_5 : decode cX4_meets 5 = .ok (.iaload, 1) := by decide +kernel
theorem dX4_meets_6 : decode cX4_meets 6 = .ok (.iload_n 2, 1) := by decide +kernel
theorem dX4_meets_7 : decode cX4_meets 7 = .ok (.if_icmp .eq 13, 3) := by decide +kernel
theorem dX4_meets_10 : decode cX4_meets 10 = .ok (.aload_n 0, 1) := by decide +kernel
theorem dX4_meets_11 : decode cX4_meets 11 = .ok (.getfield 15, 3) := by decide +kernel
theorem dX4_meets_14 : decode cX4_meets 14 = .ok (.iload_n 1, 1) := by decide +kernel
theorem dX4_meets_15 : decode cX4_meets 15 = .ok (.iaload, 1) := by decide +kernel
theorem dX4_meets_16 : decode cX4_meets 16 = .ok (.iload_n 2, 1) := by decide +kernel
theorem dX4_meets_17 : decode cX4_meets 17 = .ok (.if_icmp .ne 7, 3) := by decide +kernel
theorem dX4_meets_20 : decode cX4_meets 20 = .ok (.iconst 1, 1) := by decide +kernel
theorem dX4_meets_21 : decode cX4_meets 21 = .ok (.goto 4, 3) := by decide +kernel
theorem dX4_meets_24 : decode cX4_meets 24 = .ok (.iconst 0, 1) := by decide +kernel
theorem dX4_meets_25 : decode cX4_meets 25 = .ok (.ireturn, 1) := by decide +kernel
theorem dX4_otherEnd_0 : decode cX4_otherEnd 0 = .ok (.aload_n 0, 1) := by decide +kernel
theorem dX4_otherEnd_1 : decode cX4_otherEnd 1 = .ok (.getfield 9, 3) := by decide +kernel
theorem dX4_otherEnd_4 : decode cX4_otherEnd 4 = .ok (.iload_n 1, 1) := by decide +kernel
theorem dX4_otherEnd_5 : decode cX4_otherEnd 5 = .ok (.iaload, 1) := by decide +kernel
theorem dX4_otherEnd_6 : decode cX4_otherEnd 6 = .ok (.iload_n 2, 1) := by decide +kernel
theorem dX4_otherEnd_7 : decode cX4_otherEnd 7 = .ok (.if_icmp .ne 12, 3) := by decide +kernel
theorem dX4_otherEnd_10 : decode cX4_otherEnd 10 = .ok (.aload_n 0, 1) := by decide +kernel
theorem dX4_otherEnd_11 : decode cX4_otherEnd 11 = .ok (.getfield 15, 3) := by decide +kernel
theorem dX4_otherEnd_14 : decode cX4_otherEnd 14 = .ok (.iload_n 1, 1) := by decide +kernel
theorem dX4_otherEnd_15 : decode cX4_otherEnd 15 = .ok (.iaload, 1) := by decide +kernel
theorem dX4_otherEnd_16 : decode cX4_otherEnd 16 = .ok (.goto 9, 3) := by decide +kernel
theorem dX4_otherEnd_19 : decode cX4_otherEnd 19 = .ok (.aload_n 0, 1) := by decide +kernel
theorem dX4_otherEnd_20 : decode cX4_otherEnd 20 = .ok (.getfield 9, 3) := by decide +kernel
theorem dX4_otherEnd_23 : decode cX4_otherEnd 23 = .ok (.iload_n 1, 1) := by decide +kernel
theorem dX4_otherEnd_24 : decode cX4_otherEnd 24 = .ok (.iaload, 1) := by decide +kernel
theorem dX4_otherEnd_25 : decode cX4_otherEnd 25 = .ok (.ireturn, 1) := by decide +kernel
theorem dX4_roadsAt_0 : decode cX4_roadsAt 0 = .ok (.iconst 0, 1) := by decide +kernel
theorem dX4_roadsAt_1 : decode cX4_roadsAt 1 = .ok (.istore_n 2, 1) := by decide +kernel
theorem dX4_roadsAt_2 : decode cX4_roadsAt 2 = .ok (.iconst 0, 1) := by decide +kernel
theorem dX4_roadsAt_3 : decode cX4_roadsAt 3 = .ok (.istore_n 3, 1) := by decide +kernel
theorem dX4_roadsAt_4 : decode cX4_roadsAt 4 = .ok (.iload_n 3, 1) := by decide +kernel
theorem dX4_roadsAt_5 : decode cX4_roadsAt 5 = .ok (.aload_n 0, 1) := by decide +kernel
theorem dX4_roadsAt_6 : decode cX4_roadsAt 6 = .ok (.getfield 31, 3) := by decide +kernel
theorem dX4_roadsAt_9 : decode cX4_roadsAt 9 = .ok (.if_icmp .ge 24, 3) := by decide +kernel
theorem dX4_roadsAt_12 : decode cX4_roadsAt 12 = .ok (.aload_n 0, 1) := by decide +kernel
theorem dX4_roadsAt_13 : decode cX4_roadsAt 13 = .ok (.iload_n 3, 1) := by decide +kernel
theorem dX4_roadsAt_14 : decode cX4_roadsAt 14 = .ok (.iload_n 1, 1) := by decide +kernel
theorem dX4_roadsAt_15 : decode cX4_roadsAt 15 = .ok (.invokevirtual 46, 3) := by decide +kernel
theorem dX4_roadsAt_18 : decode cX4_roadsAt 18 = .ok (.ifCond .eq 9, 3) := by decide +kernel
theorem dX4_roadsAt_21 : decode cX4_roadsAt 21 = .ok (.iload_n 2, 1) := by decide +kernel
theorem dX4_roadsAt_22 : decode cX4_roadsAt 22 = .ok (.iconst 1, 1) := by decide +kernel
theorem dX4_roadsAt_23 : decode cX4_roadsAt 23 = .ok (.iload_n 3, 1) := by decide +kernel
theorem dX4_roadsAt_24 : decode cX4_roadsAt 24 = .ok (.ishl, 1) := by decide +kernel
theorem dX4_roadsAt_25 : decode cX4_roadsAt 25 = .ok (.ior, 1) := by decide +kernel
theorem dX4_roadsAt_26 : decode cX4_roadsAt 26 = .ok (.istore_n 2, 1) := by decide +kernel
theorem dX4_roadsAt_27 : decode cX4_roadsAt 27 = .ok (.iinc 3 1, 3) := by decide +kernel
theorem dX4_roadsAt_30 : decode cX4_roadsAt 30 = .ok (.goto (-26), 3) := by decide +kernel
theorem dX4_roadsAt_33 : decode cX4_roadsAt 33 = .ok (.iload_n 2, 1) := by decide +kernel
theorem dX4_roadsAt_34 : decode cX4_roadsAt 34 = .ok (.ireturn, 1) := by decide +kernel
theorem dX4_isTurn_0 : decode cX4_isTurn 0 = .ok (.aload_n 0, 1) := by decide +kernel
theorem dX4_isTurn_1 : decode cX4_isTurn 1 = .ok (.iload_n 1, 1) := by decide +kernel
theorem dX4_isTurn_2 : decode cX4_isTurn 2 = .ok (.invokevirtual 50, 3) := by decide +kernel
theorem dX4_isTurn_5 : decode cX4_isTurn 5 = .ok (.ifCond .eq 20, 3) := by decide +kernel
theorem dX4_isTurn_8 : decode cX4_isTurn 8 = .ok (.aload_n 0, 1) := by decide +kernel
theorem dX4_isTurn_9 : decode cX4_isTurn 9 = .ok (.getfield 21, 3) := by decide +kernel
theorem dX4_isTurn_12 : decode cX4_isTurn 12 = .ok (.iload_n 1, 1) := by decide +kernel
theorem dX4_isTurn_13 : decode cX4_isTurn 13 = .ok (.iaload, 1) := by decide +kernel
theorem dX4_isTurn_14 : decode cX4_isTurn 14 = .ok (.iload_n 2, 1) := by decide +kernel
theorem dX4_isTurn_15 : decode cX4_isTurn 15 = .ok (.invokestatic 54, 3) := by decide +kernel
theorem dX4_isTurn_18 : decode cX4_isTurn 18 = .ok (.ifCond .ne 7, 3) := by decide +kernel
theorem dX4_isTurn_21 : decode cX4_isTurn 21 = .ok (.iconst 1, 1) := by decide +kernel
theorem dX4_isTurn_22 : decode cX4_isTurn 22 = .ok (.goto 4, 3) := by decide +kernel
theorem dX4_isTurn_25 : decode cX4_isTurn 25 = .ok (.iconst 0, 1) := by decide +kernel
theorem dX4_isTurn_26 : decode cX4_isTurn 26 = .ok (.ireturn, 1) := by decide +kernel
theorem dX4_nervesFor_0 : decode cX4_nervesFor 0 = .ok (.aload_n 0, 1) := by decide +kernel
theorem dX4_nervesFor_1 : decode cX4_nervesFor 1 = .ok (.iload_n 1, 1) := by decide +kernel
theorem dX4_nervesFor_2 : decode cX4_nervesFor 2 = .ok (.iload_n 2, 1) := by decide +kernel
theorem dX4_nervesFor_3 : decode cX4_nervesFor 3 = .ok (.invokevirtual 57, 3) := by decide +kernel
theorem dX4_nervesFor_6 : decode cX4_nervesFor 6 = .ok (.ifCond .eq 10, 3) := by decide +kernel
theorem dX4_nervesFor_9 : decode cX4_nervesFor 9 = .ok (.aload_n 0, 1) := by decide +kernel
theorem dX4_nervesFor_10 : decode cX4_nervesFor 10 = .ok (.getfield 40, 3) := by decide +kernel
theorem dX4_nervesFor_13 : decode cX4_nervesFor 13 = .ok (.goto 4, 3) := by decide +kernel
theorem dX4_nervesFor_16 : decode cX4_nervesFor 16 = .ok (.iconst 0, 1) := by decide +kernel
theorem dX4_nervesFor_17 : decode cX4_nervesFor 17 = .ok (.ireturn, 1) := by decide +kernel
theorem dX5_init_0 : decode cX5_init 0 = .ok (.aload_n 0, 1) := by decide +kernel
theorem dX5_init_1 : decode cX5_init 1 = .ok (.invokespecial 3, 3) := by decide +kernel
theorem dX5_init_4 : decode cX5_init 4 = .ok (.aload_n 0, 1) := by decide +kernel
theorem dX5_init_5 : decode cX5_init 5 = .ok (.new 9, 3) := by decide +kernel
theorem dX5_init_8 : decode cX5_init 8 = .ok (.dup, 1) := by decide +kernel
theorem dX5_init_9 : decode cX5_init 9 = .ok (.invokespecial 11, 3) := by decide +kernel
theorem dX5_init_12 : decode cX5_init 12 = .ok (.putfield 12, 3) := by decide +kernel
theorem dX5_init_15 : decode cX5_init 15 = .ok (.aload_n 0, 1) := by decide +kernel
theorem dX5_init_16 : decode cX5_init 16 = .ok (.bipush 12, 2) := by decide +kernel
theorem dX5_init_18 : decode cX5_init 18 = .ok (.newarray .int, 2) := by decide +kernel
theorem dX5_init_20 : decode cX5_init 20 = .ok (.putfield 18, 3) := by decide +kernel
theorem dX5_init_23 : decode cX5_init 23 = .ok (.aload_n 0, 1) := by decide +kernel
theorem dX5_init_24 : decode cX5_init 24 = .ok (.bipush 24, 2) := by decide +kernel
theorem dX5_init_26 : decode cX5_init 26 = .ok (.newarray .int, 2) := by decide +kernel
theorem dX5_init_28 : decode cX5_init 28 = .ok (.putfield 22, 3) := by decide +kernel
theorem dX5_init_31 : decode cX5_init 31 = .ok (.aload_n 0, 1) := by decide +kernel
theorem dX5_init_32 : decode cX5_init 32 = .ok (.bipush 24, 2) := by decide +kernel
theorem dX5_init_34 : decode cX5_init 34 = .ok (.newarray .boolean, 2) := by decide +kernel
theorem dX5_init_36 : decode cX5_init 36 = .ok (.putfield 25, 3) := by decide +kernel
theorem dX5_init_39 : decode cX5_init 39 = .ok (.aload_n 0, 1) := by decide +kernel
theorem dX5_init_40 : decode cX5_init 40 = .ok (.bipush 12, 2) := by decide +kernel
theorem dX5_init_42 : decode cX5_init 42 = .ok (.newarray .int, 2) := by decide +kernel
theorem dX5_init_44 : decode cX5_init 44 = .ok (.putfield 29, 3) := by decide +kernel
theorem dX5_init_47 : decode cX5_init 47 = .ok (.aload_n 0, 1) := by decide +kernel
theorem dX5_init_48 : decode cX5_init 48 = .ok (.bipush 24, 2) := by decide +kernel
theorem dX5_init_50 : decode cX5_init 50 = .ok (.newarray .int, 2) := by decide +kernel
theorem dX5_init_52 : decode cX5_init 52 = .ok (.putfield 32, 3) := by decide +kernel
theorem dX5_init_55 : decode cX5_init 55 = .ok (.return_, 1) := by decide +kernel
theorem dX5_look_0 : decode cX5_look 0 = .ok (.aload_n 0, 1) := by decide +kernel
theorem dX5_look_1 : decode cX5_look 1 = .ok (.aload_n 1, 1) := by decide +kernel
theorem dX5_look_2 : decode cX5_look 2 = .ok (.putfield 12, 3) := by decide +kernel
theorem dX5_look_5 : decode cX5_look 5 = .ok (.aload_n 0, 1) := by decide +kernel
theorem dX5_look_6 : decode cX5_look 6 = .ok (.aload_n 1, 1) := by decide +kernel
theorem dX5_look_7 : decode cX5_look 7 = .ok (.invokevirtual 35, 3) := by decide +kernel
theorem dX5_look_10 : decode cX5_look 10 = .ok (.aload_n 2, 1) := by decide +kernel
theorem dX5_look_11 : decode cX5_look 11 = .ok (.getfield 39, 3) := by decide +kernel
theorem dX5_look_14 : decode cX5_look 14 = .ok (.iconst (-1), 1) := by decide +kernel
theorem dX5_look_15 : decode cX5_look 15 = .ok (.ixor, 1) := by decide +kernel
theorem dX5_look_16 : decode cX5_look 16 = .ok (.iand, 1) := by decide +kernel
theorem dX5_look_17 : decode cX5_look 17 = .ok (.putfield 45, 3) := by decide +kernel
theorem dX5_look_20 : decode cX5_look 20 = .ok (.iconst 0, 1) := by decide +kernel
theorem dX5_look_21 : decode cX5_look 21 = .ok (.istore_n 3, 1) := by decide +kernel
theorem dX5_look_22 : decode cX5_look 22 = .ok (.iload_n 3, 1) := by decide +kernel
theorem dX5_look_23 : decode cX5_look 23 = .ok (.aload_n 1, 1) := by decide +kernel
theorem dX5_look_24 : decode cX5_look 24 = .ok (.getfield 48, 3) := by decide +kernel
theorem dX5_look_27 : decode cX5_look 27 = .ok (.if_icmp .ge 28, 3) := by decide +kernel
theorem dX5_look_30 : decode cX5_look 30 = .ok (.aload_n 0, 1) := by decide +kernel
theorem dX5_look_31 : decode cX5_look 31 = .ok (.getfield 18, 3) := by decide +kernel
theorem dX5_look_34 : decode cX5_look 34 = .ok (.iload_n 3, 1) := by decide +kernel
theorem dX5_look_35 : decode cX5_look 35 = .ok (.aload_n 1, 1) := by decide +kernel
theorem dX5_look_36 : decode cX5_look 36 = .ok (.getfield 51, 3) := by decide +kernel
theorem dX5_look_39 : decode cX5_look 39 = .ok (.iload_n 3, 1) := by decide +kernel
theorem dX5_look_40 : decode cX5_look 40 = .ok (.iaload, 1) := by decide +kernel
theorem dX5_look_41 : decode cX5_look 41 = .ok (.aload_n 2, 1) := by decide +kernel
theorem dX5_look_42 : decode cX5_look 42 = .ok (.getfield 54, 3) := by decide +kernel
theorem dX5_look_45 : decode cX5_look 45 = .ok (.iload_n 3, 1) := by decide +kernel
theorem dX5_look_46 : decode cX5_look 46 = .ok (.iaload, 1) := by decide +kernel
theorem dX5_look_47 : decode cX5_look 47 = .ok (.iadd, 1) := by decide +kernel
theorem dX5_look_48 : decode cX5_look 48 = .ok (.iastore, 1) := by decide +kernel
theorem dX5_look_49 : decode cX5_look 49 = .ok (.iinc 3 1, 3) := by decide +kernel
theorem dX5_look_52 : decode cX5_look 52 = .ok (.goto (-30), 3) := by decide +kernel
theorem dX5_look_55 : decode cX5_look 55 = .ok (.aload_n 0, 1) := by decide +kernel
theorem dX5_look_56 : decode cX5_look 56 = .ok (.invokevirtual 57, 3) := by decide +kernel
theorem dX5_look_59 : decode cX5_look 59 = .ok (.return_, 1) := by decide +kernel
theorem dX5_lookAtOpen_0 : decode cX5_lookAtOpen 0 = .ok (.aload_n 0, 1) := by decide +kernel
theorem dX5_lookAtOpen_1 : decode cX5_lookAtOpen 1 = .ok (.iload_n 1, 1) := by decide +kernel
theorem dX5_lookAtOpen_2 : decode cX5_lookAtOpen 2 = .ok (.putfield 45, 3) := by decide +kernel
theorem dX5_lookAtOpen_5 : decode cX5_lookAtOpen 5 = .ok (.aload_n 0, 1) := by decide +kernel
theorem dX5_lookAtOpen_6 : decode cX5_lookAtOpen 6 = .ok (.invokevirtual 57, 3) := by decide +kernel
theorem dX5_lookAtOpen_9 : decode cX5_lookAtOpen 9 = .ok (.return_, 1) := by decide +kernel
theorem dX5_lookBehindRow_0 : decode cX5_lookBehindRow 0 = .ok (.iconst 0, 1) := by decide +kernel
theorem dX5_lookBehindRow_1 : decode cX5_lookBehindRow 1 = .ok (.istore_n 2, 1) := by decide +kernel
theorem dX5_lookBehindRow_2 : decode cX5_lookBehindRow 2 = .ok (.iload_n 2, 1) := by decide +kernel
theorem dX5_lookBehindRow_3 : decode cX5_lookBehindRow 3 = .ok (.aload_n 0, 1) := by decide +kernel
theorem dX5_lookBehindRow_4 : decode cX5_lookBehindRow 4 = .ok (.getfield 60, 3) := by decide +kernel
theorem dX5_lookBehindRow_7 : decode cX5_lookBehindRow 7 = .ok (.if_icmp .ge 24, 3) := by decide +kernel
theorem dX5_lookBehindRow_10 : decode cX5_lookBehindRow 10 = .ok (.aload_n 0, 1) := by decide +kernel
theorem dX5_lookBehindRow_11 : decode cX5_lookBehindRow 11 = .ok (.getfield 18, 3) := by decide +kernel
theorem dX5_lookBehindRow_14 : decode cX5_lookBehindRow 14 = .ok (.aload_n 0, 1) := by decide +kernel
theorem dX5_lookBehindRow_15 : decode cX5_lookBehindRow 15 = .ok (.getfield 32, 3) := by decide +kernel
theorem dX5_lookBehindRow_18 : decode cX5_lookBehindRow 18 = .ok (.iload_n 2, 1) := by decide +kernel
theorem dX5_lookBehindRow_19 : decode cX5_lookBehindRow 19 = .ok (.iaload, 1) := by decide +kernel
theorem dX5_lookBehindRow_20 : decode cX5_lookBehindRow 20 = .ok (.dup2, 1) := by decide +kernel
theorem dX5_lookBehindRow_21 : decode cX5_lookBehindRow 21 = .ok (.iaload, 1) := by decide +kernel
theorem dX5_lookBehindRow_22 : decode cX5_lookBehindRow 22 = .ok (.iload_n 1, 1) := by decide +kernel
theorem dX5_lookBehindRow_23 : decode cX5_lookBehindRow 23 = .ok (.iadd, 1) := by decide +kernel
theorem dX5_lookBehindRow_24 : decode cX5_lookBehindRow 24 = .ok (.iastore, 1) := by decide +kernel
theorem dX5_lookBehindRow_25 : decode cX5_lookBehindRow 25 = .ok (.iinc 2 1, 3) := by decide +kernel
theorem dX5_lookBehindRow_28 : decode cX5_lookBehindRow 28 = .ok (.goto (-26), 3) := by decide +kernel
theorem dX5_lookBehindRow_31 : decode cX5_lookBehindRow 31 = .ok (.aload_n 0, 1) := by decide +kernel
theorem dX5_lookBehindRow_32 : decode cX5_lookBehindRow 32 = .ok (.invokevirtual 57, 3) := by decide +kernel
theorem dX5_lookBehindRow_35 : decode cX5_lookBehindRow 35 = .ok (.return_, 1) := by decide +kernel
theorem dX5_measure_0 : decode cX5_measure 0 = .ok (.iconst 2, 1) := by decide +kernel
theorem dX5_measure_1 : decode cX5_measure 1 = .ok (.aload_n 0, 1) := by decide +kernel
theorem dX5_measure_2 : decode cX5_measure 2 = .ok (.getfield 12, 3) := by decide +kernel
theorem dX5_measure_5 : decode cX5_measure 5 = .ok (.getfield 48, 3) := by decide +kernel
theorem dX5_measure_8 : decode cX5_measure 8 = .ok (.imul, 1) := by decide +kernel
theorem dX5_measure_9 : decode cX5_measure 9 = .ok (.istore_n 1, 1) := by decide +kernel
theorem dX5_measure_10 : decode cX5_measure 10 = .ok (.iconst 0, 1) := by decide +kernel
theorem dX5_measure_11 : decode cX5_measure 11 = .ok (.istore_n 2, 1) := by decide +kernel
theorem dX5_measure_12 : decode cX5_measure 12 = .ok (.iload_n 2, 1) := by decide +kernel
theorem dX5_measure_13 : decode cX5_measure 13 = .ok (.iload_n 1, 1) := by decide +kernel
theorem dX5_measure_14 : decode cX5_measure 14 = .ok (.if_icmp .ge 43, 3) := by decide +kernel
theorem dX5_measure_17 : decode cX5_measure 17 = .ok (.aload_n 0, 1) := by decide +kernel
theorem dX5_measure_18 : decode cX5_measure 18 = .ok (.getfield 22, 3) := by decide +kernel
theorem dX5_measure_21 : decode cX5_measure 21 = .ok (.iload_n 2, 1) := by decide +kernel
theorem dX5_measure_22 : decode cX5_measure 22 = .ok (.aload_n 0, 1) := by decide +kernel
theorem dX5_measure_23 : decode cX5_measure 23 = .ok (.iload_n 2, 1) := by decide +kernel
theorem dX5_measure_24 : decode cX5_measure 24 = .ok (.invokevirtual 63, 3) := by decide +kernel
theorem dX5_measure_27 : decode cX5_measure 27 = .ok (.aload_n 0, 1) := by decide +kernel
theorem dX5_measure_28 : decode cX5_measure 28 = .ok (.getfield 12, 3) := by decide +kernel
theorem dX5_measure_31 : decode cX5_measure 31 = .ok (.getfield 67, 3) := by decide +kernel
theorem dX5_measure_34 : decode cX5_measure 34 = .ok (.if_icmp .ne 7, 3) := by decide +kernel
theorem dX5_measure_37 : decode cX5_measure 37 = .ok (.iconst 0, 1) := by decide +kernel
theorem dX5_measure_38 : decode cX5_measure 38 = .ok (.goto 5, 3) := by decide +kernel
theorem dX5_measure_41 : decode cX5_measure 41 = .ok (.ldc 70, 2) := by decide +kernel
theorem dX5_measure_43 : decode cX5_measure 43 = .ok (.iastore, 1) := by decide +kernel
theorem dX5_measure_44 : decode cX5_measure 44 = .ok (.aload_n 0, 1) := by decide +kernel
theorem dX5_measure_45 : decode cX5_measure 45 = .ok (.getfield 25, 3) := by decide +kernel
theorem dX5_measure_48 : decode cX5_measure 48 = .ok (.iload_n 2, 1) := by decide +kernel
theorem dX5_measure_49 : decode cX5_measure 49 = .ok (.iconst 0, 1) := by decide +kernel
theorem dX5_measure_50 : decode cX5_measure 50 = .ok (.bastore, 1) := by decide +kernel
theorem dX5_measure_51 : decode cX5_measure 51 = .ok (.iinc 2 1, 3) := by decide +kernel
theorem dX5_measure_54 : decode cX5_measure 54 = .ok (.goto (-42), 3) := by decide +kernel
theorem dX5_measure_57 : decode cX5_measure 57 = .ok (.iconst 0, 1) := by decide +kernel
theorem dX5_measure_58 : decode cX5_measure 58 = .ok (.istore_n 2, 1) := by decide +kernel
theorem dX5_measure_59 : decode cX5_measure 59 = .ok (.iload_n 2, 1) := by decide +kernel
theorem dX5_measure_60 : decode cX5_measure 60 = .ok (.iload_n 1, 1) := by decide +kernel
theorem dX5_measure_61 : decode cX5_measure 61 = .ok (.if_icmp .ge 35, 3) := by decide +kernel
theorem dX5_measure_64 : decode cX5_measure 64 = .ok (.aload_n 0, 1) := by decide +kernel
theorem dX5_measure_65 : decode cX5_measure 65 = .ok (.iload_n 1, 1) := by decide +kernel
theorem dX5_measure_66 : decode cX5_measure 66 = .ok (.invokevirtual 71, 3) := by decide +kernel
theorem dX5_measure_69 : decode cX5_measure 69 = .ok (.istore_n 3, 1) := by decide +kernel
theorem dX5_measure_70 : decode cX5_measure 70 = .ok (.iload_n 3, 1) := by decide +kernel
theorem dX5_measure_71 : decode cX5_measure 71 = .ok (.bipush (-9), 2) := by decide +kernel
theorem dX5_measure_73 : decode cX5_measure 73 = .ok (.if_icmp .ne 4, 3) := by decide +kernel
theorem dX5_measure_76 : decode cX5_measure 76 = .ok (.return_, 1) := by decide +kernel
theorem dX5_measure_77 : decode cX5_measure 77 = .ok (.aload_n 0, 1) := by decide +kernel
theorem dX5_measure_78 : decode cX5_measure 78 = .ok (.getfield 25, 3) := by decide +kernel
theorem dX5_measure_81 : decode cX5_measure 81 = .ok (.iload_n 3, 1) := by decide +kernel
theorem dX5_measure_82 : decode cX5_measure 82 = .ok (.iconst 1, 1) := by decide +kernel
theorem dX5_measure_83 : decode cX5_measure 83 = .ok (.bastore, 1) := by decide +kernel
theorem dX5_measure_84 : decode cX5_measure 84 = .ok (.aload_n 0, 1) := by decide +kernel
theorem dX5_measure_85 : decode cX5_measure 85 = .ok (.iload_n 3, 1) := by decide +kernel
theorem dX5_measure_86 : decode cX5_measure 86 = .ok (.iload_n 1, 1) := by decide +kernel
theorem dX5_measure_87 : decode cX5_measure 87 = .ok (.invokevirtual 74, 3) := by decide +kernel
theorem dX5_measure_90 : decode cX5_measure 90 = .ok (.iinc 2 1, 3) := by decide +kernel
theorem dX5_measure_93 : decode cX5_measure 93 = .ok (.goto (-34), 3) := by decide +kernel
theorem dX5_measure_96 : decode cX5_measure 96 = .ok (.return_, 1) := by decide +kernel
theorem dX5_nearestUnsettled_0 : decode cX5_nearestUnsettled 0 = .ok (.bipush (-9), 2) := by decide +kernel
theorem dX5_nearestUnsettled_2 : decode cX5_nearestUnsettled 2 = .ok (.istore_n 2, 1) := by decide +kernel
theorem dX5_nearestUnsettled_3 : decode cX5_nearestUnsettled 3 = .ok (.ldc 70, 2) := by decide +kernel
theorem dX5_nearestUnsettled_5 : decode cX5_nearestUnsettled 5 = .ok (.istore_n 3, 1) := by decide +kernel
theorem dX5_nearestUnsettled_6 : decode cX5_nearestUnsettled 6 = .ok (.iconst 0, 1) := by decide +kernel
theorem dX5_nearestUnsettled_7 : decode cX5_nearestUnsettled 7 = .ok (.istore 4, 2) := by decide +kernel
theorem dX5_nearestUnsettled_9 : decode cX5_nearestUnsettled 9 = .ok (.iload 4, 2) := by decide +kernel
theorem dX5_nearestUnsettled_11 : decode cX5_nearestUnsettled 11 = .ok (.iload_n 1, 1) := by decide +kernel
theorem dX5_nearestUnsettled_12 : decode cX5_nearestUnsettled 12 = .ok (.if_icmp .ge 41, 3) := by decide +kernel
theorem dX5_nearestUnsettled_15 : decode cX5_nearestUnsettled 15 = .ok (.aload_n 0, 1) := by decide +kernel
theorem dX5_nearestUnsettled_16 : decode cX5_nearestUnsettled 16 = .ok (.getfield 25, 3) := by decide +kernel
theorem dX5_nearestUnsettled_19 : decode cX5_nearestUnsettled 19 = .ok (.iload 4, 2) := by decide +kernel
theorem dX5_nearestUnsettled_21 : decode cX5_nearestUnsettled 21 = .ok (.baload, 1) := by decide +kernel
theorem dX5_nearestUnsettled_22 : decode cX5_nearestUnsettled 22 = .ok (.ifCond .ne 25, 3) := by decide +kernel
theorem dX5_nearestUnsettled_25 : decode cX5_nearestUnsettled 25 = .ok (.aload_n 0, 1) := by decide +kernel
theorem dX5_nearestUnsettled_26 : decode cX5_nearestUnsettled 26 = .ok (.getfield 22, 3) := by decide +kernel
theorem dX5_nearestUnsettled_29 : decode cX5_nearestUnsettled 29 = .ok (.iload 4, 2) := by decide +kernel
theorem dX5_nearestUnsettled_31 : decode cX5_nearestUnsettled 31 = .ok (.iaload, 1) := by decide +kernel
theorem dX5_nearestUnsettled_32 : decode cX5_nearestUnsettled 32 = .ok (.iload_n 3, 1) := by decide +kernel
theorem dX5_nearestUnsettled_33 : decode cX5_nearestUnsettled 33 = .ok (.if_icmp .ge 14, 3) := by decide +kernel
theorem dX5_nearestUnsettled_36 : decode cX5_nearestUnsettled 36 = .ok (.iload 4, 2) := by decide +kernel
theorem dX5_nearestUnsettled_38 : decode cX5_nearestUnsettled 38 = .ok (.istore_n 2, 1) := by decide +kernel
theorem dX5_nearestUnsettled_39 : decode cX5_nearestUnsettled 39 = .ok (.aload_n 0, 1) := by decide +kernel
theorem dX5_nearestUnsettled_40 : decode cX5_nearestUnsettled 40 = .ok (.getfield 22, 3) := by decide +kernel
theorem dX5_nearestUnsettled_43 : decode cX5_nearestUnsettled 43 = .ok (.iload 4, 2) := by decide +kernel
theorem dX5_nearestUnsettled_45 : decode cX5_nearestUnsettled 45 = .ok (.iaload, 1) := by decide +kernel
theorem dX5_nearestUnsettled_46 : decode cX5_nearestUnsettled 46 = .ok (.istore_n 3, 1) := by decide +kernel
theorem dX5_nearestUnsettled_47 : decode cX5_nearestUnsettled 47 = .ok (.iinc 4 1, 3) := by decide +kernel
theorem dX5_nearestUnsettled_50 : decode cX5_nearestUnsettled 50 = .ok (.goto (-41), 3) := by decide +kernel
theorem dX5_nearestUnsettled_53 : decode cX5_nearestUnsettled 53 = .ok (.iload_n 2, 1) := by decide +kernel
theorem dX5_nearestUnsettled_54 : decode cX5_nearestUnsettled 54 = .ok (.ireturn, 1) := by decide +kernel
theorem dX5_measureBefore_0 : decode cX5_measureBefore 0 = .ok (.iload_n 1, 1) := by decide +kernel
theorem dX5_measureBefore_1 : decode cX5_measureBefore 1 = .ok (.iconst 1, 1) := by decide +kernel
theorem dX5_measureBefore_2 : decode cX5_measureBefore 2 = .ok (.ishr, 1) := by decide +kernel
theorem dX5_measureBefore_3 : decode cX5_measureBefore 3 = .ok (.istore_n 3, 1) := by decide +kernel
theorem dX5_measureBefore_4 : decode cX5_measureBefore 4 = .ok (.aload_n 0, 1) := by decide +kernel
theorem dX5_measureBefore_5 : decode cX5_measureBefore 5 = .ok (.iload_n 1, 1) := by decide +kernel
theorem dX5_measureBefore_6 : decode cX5_measureBefore 6 = .ok (.iconst 1, 1) := by decide +kernel
theorem dX5_measureBefore_7 : decode cX5_measureBefore 7 = .ok (.ixor, 1) := by decide +kernel
theorem dX5_measureBefore_8 : decode cX5_measureBefore 8 = .ok (.invokevirtual 63, 3) := by decide +kernel
theorem dX5_measureBefore_11 : decode cX5_measureBefore 11 = .ok (.istore 4, 2) := by decide +kernel
theorem dX5_measureBefore_13 : decode cX5_measureBefore 13 = .ok (.aload_n 0, 1) := by decide +kernel
theorem dX5_measureBefore_14 : decode cX5_measureBefore 14 = .ok (.getfield 45, 3) := by decide +kernel
theorem dX5_measureBefore_17 : decode cX5_measureBefore 17 = .ok (.iload_n 3, 1) := by decide +kernel
theorem dX5_measureBefore_18 : decode cX5_measureBefore 18 = .ok (.invokestatic 78, 3) := by decide +kernel
theorem dX5_measureBefore_21 : decode cX5_measureBefore 21 = .ok (.ifCond .eq 15, 3) := by decide +kernel
theorem dX5_measureBefore_24 : decode cX5_measureBefore 24 = .ok (.iload 4, 2) := by decide +kernel
theorem dX5_measureBefore_26 : decode cX5_measureBefore 26 = .ok (.aload_n 0, 1) := by decide +kernel
theorem dX5_measureBefore_27 : decode cX5_measureBefore 27 = .ok (.getfield 12, 3) := by decide +kernel
theorem dX5_measureBefore_30 : decode cX5_measureBefore 30 = .ok (.getfield 67, 3) := by decide +kernel
theorem dX5_measureBefore_33 : decode cX5_measureBefore 33 = .ok (.if_icmp .ne 4, 3) := by decide +kernel
theorem dX5_measureBefore_36 : decode cX5_measureBefore 36 = .ok (.return_, 1) := by decide +kernel
theorem dX5_measureBefore_37 : decode cX5_measureBefore 37 = .ok (.aload_n 0, 1) := by decide +kernel
theorem dX5_measureBefore_38 : decode cX5_measureBefore 38 = .ok (.getfield 22, 3) := by decide +kernel
theorem dX5_measureBefore_41 : decode cX5_measureBefore 41 = .ok (.iload_n 1, 1) := by decide +kernel
theorem dX5_measureBefore_42 : decode cX5_measureBefore 42 = .ok (.iaload, 1) := by decide +kernel
theorem dX5_measureBefore_43 : decode cX5_measureBefore 43 = .ok (.aload_n 0, 1) := by decide +kernel
theorem dX5_measureBefore_44 : decode cX5_measureBefore 44 = .ok (.getfield 18, 3) := by decide +kernel
theorem dX5_measureBefore_47 : decode cX5_measureBefore 47 = .ok (.iload_n 3, 1) := by decide +kernel
theorem dX5_measureBefore_48 : decode cX5_measureBefore 48 = .ok (.iaload, 1) := by decide +kernel
theorem dX5_measureBefore_49 : decode cX5_measureBefore 49 = .ok (.iadd, 1) := by decide +kernel
theorem dX5_measureBefore_50 : decode cX5_measureBefore 50 = .ok (.istore 5, 2) := by decide +kernel
theorem dX5_measureBefore_52 : decode cX5_measureBefore 52 = .ok (.iconst 0, 1) := by decide +kernel
theorem dX5_measureBefore_53 : decode cX5_measureBefore 53 = .ok (.istore 6, 2) := by decide +kernel
theorem dX5_measureBefore_55 : decode cX5_measureBefore 55 = .ok (.iload 6, 2) := by decide +kernel
theorem dX5_measureBefore_57 : decode cX5_measureBefore 57 = .ok (.iload_n 2, 1) := by decide +kernel
theorem dX5_measureBefore_58 : decode cX5_measureBefore 58 = .ok (.if_icmp .ge 52, 3) := by decide +kernel
theorem dX5_measureBefore_61 : decode cX5_measureBefore 61 = .ok (.aload_n 0, 1) := by decide +kernel
theorem dX5_measureBefore_62 : decode cX5_measureBefore 62 = .ok (.iload 6, 2) := by decide +kernel
theorem dX5_measureBefore_64 : decode cX5_measureBefore 64 = .ok (.invokevirtual 63, 3) := by decide +kernel
theorem dX5_measureBefore_67 : decode cX5_measureBefore 67 = .ok (.iload 4, 2) := by decide +kernel
theorem dX5_measureBefore_69 : decode cX5_measureBefore 69 = .ok (.if_icmp .ne 35, 3) := by decide +kernel
theorem dX5_measureBefore_72 : decode cX5_measureBefore 72 = .ok (.aload_n 0, 1) := by decide +kernel
theorem dX5_measureBefore_73 : decode cX5_measureBefore 73 = .ok (.getfield 22, 3) := by decide +kernel
theorem dX5_measureBefore_76 : decode cX5_measureBefore 76 = .ok (.iload 6, 2) := by decide +kernel
theorem dX5_measureBefore_78 : decode cX5_measureBefore 78 = .ok (.aload_n 0, 1) := by decide +kernel
theorem dX5_measureBefore_79 : decode cX5_measureBefore 79 = .ok (.getfield 22, 3) := by decide +kernel
theorem dX5_measureBefore_82 : decode cX5_measureBefore 82 = .ok (.iload 6, 2) := by decide +kernel
theorem dX5_measureBefore_84 : decode cX5_measureBefore 84 = .ok (.iaload, 1) := by decide +kernel
theorem dX5_measureBefore_85 : decode cX5_measureBefore 85 = .ok (.iload 5, 2) := by decide +kernel
theorem dX5_measureBefore_87 : decode cX5_measureBefore 87 = .ok (.aload_n 0, 1) := by decide +kernel
theorem dX5_measureBefore_88 : decode cX5_measureBefore 88 = .ok (.getfield 12, 3) := by decide +kernel
theorem dX5_measureBefore_91 : decode cX5_measureBefore 91 = .ok (.iload 6, 2) := by decide +kernel
theorem dX5_measureBefore_93 : decode cX5_measureBefore 93 = .ok (.iconst 1, 1) := by decide +kernel
theorem dX5_measureBefore_94 : decode cX5_measureBefore 94 = .ok (.ishr, 1) := by decide +kernel
theorem dX5_measureBefore_95 : decode cX5_measureBefore 95 = .ok (.iload_n 3, 1) := by decide +kernel
theorem dX5_measureBefore_96 : decode cX5_measureBefore 96 = .ok (.invokevirtual 82, 3) := by decide +kernel
theorem dX5_measureBefore_99 : decode cX5_measureBefore 99 = .ok (.iadd, 1) := by decide +kernel
theorem dX5_measureBefore_100 : decode cX5_measureBefore 100 = .ok (.invokestatic 86, 3) := by decide +kernel
theorem dX5_measureBefore_103 : decode cX5_measureBefore 103 = .ok (.iastore, 1) := by decide +kernel
theorem dX5_measureBefore_104 : decode cX5_measureBefore 104 = .ok (.iinc 6 1, 3) := by decide +kernel
theorem dX5_measureBefore_107 : decode cX5_measureBefore 107 = .ok (.goto (-52), 3) := by decide +kernel
theorem dX5_measureBefore_110 : decode cX5_measureBefore 110 = .ok (.return_, 1) := by decide +kernel
theorem dX5_placeOf_0 : decode cX5_placeOf 0 = .ok (.iload_n 1, 1) := by decide +kernel
theorem dX5_placeOf_1 : decode cX5_placeOf 1 = .ok (.iconst 1, 1) := by decide +kernel
theorem dX5_placeOf_2 : decode cX5_placeOf 2 = .ok (.ishr, 1) := by decide +kernel
theorem dX5_placeOf_3 : decode cX5_placeOf 3 = .ok (.istore_n 2, 1) := by decide +kernel
theorem dX5_placeOf_4 : decode cX5_placeOf 4 = .ok (.iload_n 1, 1) := by decide +kernel
theorem dX5_placeOf_5 : decode cX5_placeOf 5 = .ok (.iconst 1, 1) := by decide +kernel
theorem dX5_placeOf_6 : decode cX5_placeOf 6 = .ok (.iand, 1) := by decide +kernel
theorem dX5_placeOf_7 : decode cX5_placeOf 7 = .ok (.ifCond .ne 15, 3) := by decide +kernel
theorem dX5_placeOf_10 : decode cX5_placeOf 10 = .ok (.aload_n 0, 1) := by decide +kernel
theorem dX5_placeOf_11 : decode cX5_placeOf 11 = .ok (.getfield 12, 3) := by decide +kernel
theorem dX5_placeOf_14 : decode cX5_placeOf 14 = .ok (.getfield 91, 3) := by decide +kernel
theorem dX5_placeOf_17 : decode cX5_placeOf 17 = .ok (.iload_n 2, 1) := by decide +kernel
theorem dX5_placeOf_18 : decode cX5_placeOf 18 = .ok (.iaload, 1) := by decide +kernel
theorem dX5_placeOf_19 : decode cX5_placeOf 19 = .ok (.goto 12, 3) := by decide +kernel
theorem dX5_placeOf_22 : decode cX5_placeOf 22 = .ok (.aload_n 0, 1) := by decide +kernel
theorem dX5_placeOf_23 : decode cX5_placeOf 23 = .ok (.getfield 12, 3) := by decide +kernel
theorem dX5_placeOf_26 : decode cX5_placeOf 26 = .ok (.getfield 94, 3) := by decide +kernel
theorem dX5_placeOf_29 : decode cX5_placeOf 29 = .ok (.iload_n 2, 1) := by decide +kernel
theorem dX5_placeOf_30 : decode cX5_placeOf 30 = .ok (.iaload, 1) := by decide +kernel
theorem dX5_placeOf_31 : decode cX5_placeOf 31 = .ok (.ireturn, 1) := by decide +kernel
theorem dX5_minutesBy_0 : decode cX5_minutesBy 0 = .ok (.aload_n 0, 1) := by decide +kernel
theorem dX5_minutesBy_1 : decode cX5_minutesBy 1 = .ok (.getfield 12, 3) := by decide +kernel
theorem dX5_minutesBy_4 : decode cX5_minutesBy 4 = .ok (.getfield 91, 3) := by decide +kernel
theorem dX5_minutesBy_7 : decode cX5_minutesBy 7 = .ok (.iload_n 1, 1) := by decide +kernel
theorem dX5_minutesBy_8 : decode cX5_minutesBy 8 = .ok (.iaload, 1) := by decide +kernel
theorem dX5_minutesBy_9 : decode cX5_minutesBy 9 = .ok (.iload_n 2, 1) := by decide +kernel
theorem dX5_minutesBy_10 : decode cX5_minutesBy 10 = .ok (.if_icmp .ne 11, 3) := by decide +kernel
theorem dX5_minutesBy_13 : decode cX5_minutesBy 13 = .ok (.iconst 2, 1) := by decide +kernel
theorem dX5_minutesBy_14 : decode cX5_minutesBy 14 = .ok (.iload_n 1, 1) := by decide +kernel
theorem dX5_minutesBy_15 : decode cX5_minutesBy 15 = .ok (.imul, 1) := by decide +kernel
theorem dX5_minutesBy_16 : decode cX5_minutesBy 16 = .ok (.iconst 1, 1) := by decide +kernel
theorem dX5_minutesBy_17 : decode cX5_minutesBy 17 = .ok (.iadd, 1) := by decide +kernel
theorem dX5_minutesBy_18 : decode cX5_minutesBy 18 = .ok (.goto 6, 3) := by decide +kernel
theorem dX5_minutesBy_21 : decode cX5_minutesBy 21 = .ok (.iconst 2, 1) := by decide +kernel
theorem dX5_minutesBy_22 : decode cX5_minutesBy 22 = .ok (.iload_n 1, 1) := by decide +kernel
theorem dX5_minutesBy_23 : decode cX5_minutesBy 23 = .ok (.imul, 1) := by decide +kernel
theorem dX5_minutesBy_24 : decode cX5_minutesBy 24 = .ok (.istore 4, 2) := by decide +kernel
theorem dX5_minutesBy_26 : decode cX5_minutesBy 26 = .ok (.aload_n 0, 1) := by decide +kernel
theorem dX5_minutesBy_27 : decode cX5_minutesBy 27 = .ok (.getfield 22, 3) := by decide +kernel
theorem dX5_minutesBy_30 : decode cX5_minutesBy 30 = .ok (.iload 4, 2) := by decide +kernel
theorem dX5_minutesBy_32 : decode cX5_minutesBy 32 = .ok (.iaload, 1) := by decide +kernel
theorem dX5_minutesBy_33 : decode cX5_minutesBy 33 = .ok (.ldc 70, 2) := by decide +kernel
theorem dX5_minutesBy_35 : decode cX5_minutesBy 35 = .ok (.if_icmp .lt 6, 3) := by decide +kernel
theorem dX5_minutesBy_38 : decode cX5_minutesBy 38 = .ok (.bipush (-9), 2) := by decide +kernel
theorem dX5_minutesBy_40 : decode cX5_minutesBy 40 = .ok (.ireturn, 1) := by decide +kernel
theorem dX5_minutesBy_41 : decode cX5_minutesBy 41 = .ok (.aload_n 0, 1) := by decide +kernel
theorem dX5_minutesBy_42 : decode cX5_minutesBy 42 = .ok (.getfield 18, 3) := by decide +kernel
theorem dX5_minutesBy_45 : decode cX5_minutesBy 45 = .ok (.iload_n 1, 1) := by decide +kernel
theorem dX5_minutesBy_46 : decode cX5_minutesBy 46 = .ok (.iaload, 1) := by decide +kernel
theorem dX5_minutesBy_47 : decode cX5_minutesBy 47 = .ok (.aload_n 0, 1) := by decide +kernel
theorem dX5_minutesBy_48 : decode cX5_minutesBy 48 = .ok (.getfield 12, 3) := by decide +kernel
theorem dX5_minutesBy_51 : decode cX5_minutesBy 51 = .ok (.iload_n 3, 1) := by decide +kernel
theorem dX5_minutesBy_52 : decode cX5_minutesBy 52 = .ok (.iload_n 1, 1) := by decide +kernel
theorem dX5_minutesBy_53 : decode cX5_minutesBy 53 = .ok (.invokevirtual 82, 3) := by decide +kernel
theorem dX5_minutesBy_56 : decode cX5_minutesBy 56 = .ok (.iadd, 1) := by decide +kernel
theorem dX5_minutesBy_57 : decode cX5_minutesBy 57 = .ok (.aload_n 0, 1) := by decide +kernel
theorem dX5_minutesBy_58 : decode cX5_minutesBy 58 = .ok (.getfield 22, 3) := by decide +kernel
theorem dX5_minutesBy_61 : decode cX5_minutesBy 61 = .ok (.iload 4, 2) := by decide +kernel
theorem dX5_minutesBy_63 : decode cX5_minutesBy 63 = .ok (.iaload, 1) := by decide +kernel
theorem dX5_minutesBy_64 : decode cX5_minutesBy 64 = .ok (.iadd, 1) := by decide +kernel
theorem dX5_minutesBy_65 : decode cX5_minutesBy 65 = .ok (.ireturn, 1) := by decide +kernel
theorem dX5_firstRoad_0 : decode cX5_firstRoad 0 = .ok (.bipush (-9), 2) := by decide +kernel
theorem dX5_firstRoad_2 : decode cX5_firstRoad 2 = .ok (.istore_n 3, 1) := by decide +kernel
theorem dX5_firstRoad_3 : decode cX5_firstRoad 3 = .ok (.ldc 70, 2) := by decide +kernel
theorem dX5_firstRoad_5 : decode cX5_firstRoad 5 = .ok (.istore 4, 2) := by decide +kernel
theorem dX5_firstRoad_7 : decode cX5_firstRoad 7 = .ok (.iconst 0, 1) := by decide +kernel
theorem dX5_firstRoad_8 : decode cX5_firstRoad 8 = .ok (.istore 5, 2) := by decide +kernel
theorem dX5_firstRoad_10 : decode cX5_firstRoad 10 = .ok (.iload 5, 2) := by decide +kernel
theorem dX5_firstRoad_12 : decode cX5_firstRoad 12 = .ok (.aload_n 0, 1) := by decide +kernel
theorem dX5_firstRoad_13 : decode cX5_firstRoad 13 = .ok (.getfield 12, 3) := by decide +kernel
theorem dX5_firstRoad_16 : decode cX5_firstRoad 16 = .ok (.getfield 48, 3) := by decide +kernel
theorem dX5_firstRoad_19 : decode cX5_firstRoad 19 = .ok (.if_icmp .ge 65, 3) := by decide +kernel
theorem dX5_firstRoad_22 : decode cX5_firstRoad 22 = .ok (.aload_n 0, 1) := by decide +kernel
theorem dX5_firstRoad_23 : decode cX5_firstRoad 23 = .ok (.getfield 45, 3) := by decide +kernel
theorem dX5_firstRoad_26 : decode cX5_firstRoad 26 = .ok (.iload 5, 2) := by decide +kernel
theorem dX5_firstRoad_28 : decode cX5_firstRoad 28 = .ok (.invokestatic 78, 3) := by decide +kernel
theorem dX5_firstRoad_31 : decode cX5_firstRoad 31 = .ok (.ifCond .eq 47, 3) := by decide +kernel
theorem dX5_firstRoad_34 : decode cX5_firstRoad 34 = .ok (.aload_n 0, 1) := by decide +kernel
theorem dX5_firstRoad_35 : decode cX5_firstRoad 35 = .ok (.getfield 12, 3) := by decide +kernel
theorem dX5_firstRoad_38 : decode cX5_firstRoad 38 = .ok (.iload 5, 2) := by decide +kernel
theorem dX5_firstRoad_40 : decode cX5_firstRoad 40 = .ok (.iload_n 1, 1) := by decide +kernel
theorem dX5_firstRoad_41 : decode cX5_firstRoad 41 = .ok (.invokevirtual 97, 3) := by decide +kernel
theorem dX5_firstRoad_44 : decode cX5_firstRoad 44 = .ok (.ifCond .eq 34, 3) := by decide +kernel
theorem dX5_firstRoad_47 : decode cX5_firstRoad 47 = .ok (.aload_n 0, 1) := by decide +kernel
theorem dX5_firstRoad_48 : decode cX5_firstRoad 48 = .ok (.iload 5, 2) := by decide +kernel
theorem dX5_firstRoad_50 : decode cX5_firstRoad 50 = .ok (.iload_n 1, 1) := by decide +kernel
theorem dX5_firstRoad_51 : decode cX5_firstRoad 51 = .ok (.iload_n 2, 1) := by decide +kernel
theorem dX5_firstRoad_52 : decode cX5_firstRoad 52 = .ok (.invokevirtual 100, 3) := by decide +kernel
theorem dX5_firstRoad_55 : decode cX5_firstRoad 55 = .ok (.istore 6, 2) := by decide +kernel
theorem dX5_firstRoad_57 : decode cX5_firstRoad 57 = .ok (.iload 6, 2) := by decide +kernel
theorem dX5_firstRoad_59 : decode cX5_firstRoad 59 = .ok (.bipush (-9), 2) := by decide +kernel
theorem dX5_firstRoad_61 : decode cX5_firstRoad 61 = .ok (.if_icmp .eq 17, 3) := by decide +kernel
theorem dX5_firstRoad_64 : decode cX5_firstRoad 64 = .ok (.iload 6, 2) := by decide +kernel
theorem dX5_firstRoad_66 : decode cX5_firstRoad 66 = .ok (.iload 4, 2) := by decide +kernel
theorem dX5_firstRoad_68 : decode cX5_firstRoad 68 = .ok (.if_icmp .ge 10, 3) := by decide +kernel
theorem dX5_firstRoad_71 : decode cX5_firstRoad 71 = .ok (.iload 5, 2) := by decide +kernel
theorem dX5_firstRoad_73 : decode cX5_firstRoad 73 = .ok (.istore_n 3, 1) := by decide +kernel
theorem dX5_firstRoad_74 : decode cX5_firstRoad 74 = .ok (.iload 6, 2) := by decide +kernel
theorem dX5_firstRoad_76 : decode cX5_firstRoad 76 = .ok (.istore 4, 2) := by decide +kernel
theorem dX5_firstRoad_78 : decode cX5_firstRoad 78 = .ok (.iinc 5 1, 3) := by decide +kernel
theorem dX5_firstRoad_81 : decode cX5_firstRoad 81 = .ok (.goto (-71), 3) := by decide +kernel
theorem dX5_firstRoad_84 : decode cX5_firstRoad 84 = .ok (.iload_n 3, 1) := by decide +kernel
theorem dX5_firstRoad_85 : decode cX5_firstRoad 85 = .ok (.ireturn, 1) := by decide +kernel
theorem dX5_minutesFrom_0 : decode cX5_minutesFrom 0 = .ok (.iload_n 1, 1) := by decide +kernel
theorem dX5_minutesFrom_1 : decode cX5_minutesFrom 1 = .ok (.aload_n 0, 1) := by decide +kernel
theorem dX5_minutesFrom_2 : decode cX5_minutesFrom 2 = .ok (.getfield 12, 3) := by decide +kernel
theorem dX5_minutesFrom_5 : decode cX5_minutesFrom 5 = .ok (.getfield 67, 3) := by decide +kernel
theorem dX5_minutesFrom_8 : decode cX5_minutesFrom 8 = .ok (.if_icmp .ne 5, 3) := by decide +kernel
theorem dX5_minutesFrom_11 : decode cX5_minutesFrom 11 = .ok (.iconst 0, 1) := by decide +kernel
theorem dX5_minutesFrom_12 : decode cX5_minutesFrom 12 = .ok (.ireturn, 1) := by decide +kernel
theorem dX5_minutesFrom_13 : decode cX5_minutesFrom 13 = .ok (.aload_n 0, 1) := by decide +kernel
theorem dX5_minutesFrom_14 : decode cX5_minutesFrom 14 = .ok (.iload_n 1, 1) := by decide +kernel
theorem dX5_minutesFrom_15 : decode cX5_minutesFrom 15 = .ok (.iload_n 2, 1) := by decide +kernel
theorem dX5_minutesFrom_16 : decode cX5_minutesFrom 16 = .ok (.invokevirtual 104, 3) := by decide +kernel
theorem dX5_minutesFrom_19 : decode cX5_minutesFrom 19 = .ok (.istore_n 3, 1) := by decide +kernel
theorem dX5_minutesFrom_20 : decode cX5_minutesFrom 20 = .ok (.iload_n 3, 1) := by decide +kernel
theorem dX5_minutesFrom_21 : decode cX5_minutesFrom 21 = .ok (.bipush (-9), 2) := by decide +kernel
theorem dX5_minutesFrom_23 : decode cX5_minutesFrom 23 = .ok (.if_icmp .ne 8, 3) := by decide +kernel
theorem dX5_minutesFrom_26 : decode cX5_minutesFrom 26 = .ok (.bipush (-9), 2) := by decide +kernel
theorem dX5_minutesFrom_28 : decode cX5_minutesFrom 28 = .ok (.goto 10, 3) := by decide +kernel
theorem dX5_minutesFrom_31 : decode cX5_minutesFrom 31 = .ok (.aload_n 0, 1) := by decide +kernel
theorem dX5_minutesFrom_32 : decode cX5_minutesFrom 32 = .ok (.iload_n 3, 1) := by decide +kernel
theorem dX5_minutesFrom_33 : decode cX5_minutesFrom 33 = .ok (.iload_n 1, 1) := by decide +kernel
theorem dX5_minutesFrom_34 : decode cX5_minutesFrom 34 = .ok (.iload_n 2, 1) := by decide +kernel
theorem dX5_minutesFrom_35 : decode cX5_minutesFrom 35 = .ok (.invokevirtual 100, 3) := by decide +kernel
theorem dX5_minutesFrom_38 : decode cX5_minutesFrom 38 = .ok (.ireturn, 1) := by decide +kernel
theorem dX5_minutesWithLonger_0 : decode cX5_minutesWithLonger 0 = .ok (.aload_n 0, 1) := by decide +kernel
theorem dX5_minutesWithLonger_1 : decode cX5_minutesWithLonger 1 = .ok (.getfield 18, 3) := by decide +kernel
theorem dX5_minutesWithLonger_4 : decode cX5_minutesWithLonger 4 = .ok (.iload_n 1, 1) := by decide +kernel
theorem dX5_minutesWithLonger_5 : decode cX5_minutesWithLonger 5 = .ok (.dup2, 1) := by decide +kernel
theorem dX5_minutesWithLonger_6 : decode cX5_minutesWithLonger 6 = .ok (.iaload, 1) := by decide +kernel
theorem dX5_minutesWithLonger_7 : decode cX5_minutesWithLonger 7 = .ok (.iload_n 2, 1) := by decide +kernel
theorem dX5_minutesWithLonger_8 : decode cX5_minutesWithLonger 8 = .ok (.iadd, 1) := by decide +kernel
theorem dX5_minutesWithLonger_9 : decode cX5_minutesWithLonger 9 = .ok (.iastore, 1) := by decide +kernel
theorem dX5_minutesWithLonger_10 : decode cX5_minutesWithLonger 10 = .ok (.aload_n 0, 1) := by decide +kernel
theorem dX5_minutesWithLonger_11 : decode cX5_minutesWithLonger 11 = .ok (.invokevirtual 57, 3) := by decide +kernel
theorem dX5_minutesWithLonger_14 : decode cX5_minutesWithLonger 14 = .ok (.aload_n 0, 1) := by decide +kernel
theorem dX5_minutesWithLonger_15 : decode cX5_minutesWithLonger 15 = .ok (.iload_n 3, 1) := by decide +kernel
theorem dX5_minutesWithLonger_16 : decode cX5_minutesWithLonger 16 = .ok (.bipush (-9), 2) := by decide +kernel
theorem dX5_minutesWithLonger_18 : decode cX5_minutesWithLonger 18 = .ok (.invokevirtual 107, 3) := by decide +kernel
theorem dX5_minutesWithLonger_21 : decode cX5_minutesWithLonger 21 = .ok (.istore 4, 2) := by decide +kernel
theorem dX5_minutesWithLonger_23 : decode cX5_minutesWithLonger 23 = .ok (.aload_n 0, 1) := by decide +kernel
theorem dX5_minutesWithLonger_24 : decode cX5_minutesWithLonger 24 = .ok (.getfield 18, 3) := by decide +kernel
theorem dX5_minutesWithLonger_27 : decode cX5_minutesWithLonger 27 = .ok (.iload_n 1, 1) := by decide +kernel
theorem dX5_minutesWithLonger_28 : decode cX5_minutesWithLonger 28 = .ok (.dup2, 1) := by decide +kernel
theorem dX5_minutesWithLonger_29 : decode cX5_minutesWithLonger 29 = .ok (.iaload, 1) := by decide +kernel
theorem dX5_minutesWithLonger_30 : decode cX5_minutesWithLonger 30 = .ok (.iload_n 2, 1) := by decide +kernel
theorem dX5_minutesWithLonger_31 : decode cX5_minutesWithLonger 31 = .ok (.isub, 1) := by decide +kernel
theorem dX5_minutesWithLonger_32 : decode cX5_minutesWithLonger 32 = .ok (.iastore, 1) := by decide +kernel
theorem dX5_minutesWithLonger_33 : decode cX5_minutesWithLonger 33 = .ok (.iload 4, 2) := by decide +kernel
theorem dX5_minutesWithLonger_35 : decode cX5_minutesWithLonger 35 = .ok (.ireturn, 1) := by decide +kernel
theorem dX5_follow_0 : decode cX5_follow 0 = .ok (.aload_n 0, 1) := by decide +kernel
theorem dX5_follow_1 : decode cX5_follow 1 = .ok (.iconst 0, 1) := by decide +kernel
theorem dX5_follow_2 : decode cX5_follow 2 = .ok (.putfield 60, 3) := by decide +kernel
theorem dX5_follow_5 : decode cX5_follow 5 = .ok (.aload_n 0, 1) := by decide +kernel
theorem dX5_follow_6 : decode cX5_follow 6 = .ok (.iconst 0, 1) := by decide +kernel
theorem dX5_follow_7 : decode cX5_follow 7 = .ok (.putfield 110, 3) := by decide +kernel
theorem dX5_follow_10 : decode cX5_follow 10 = .ok (.iload_n 1, 1) := by decide +kernel
theorem dX5_follow_11 : decode cX5_follow 11 = .ok (.istore_n 3, 1) := by decide +kernel
theorem dX5_follow_12 : decode cX5_follow 12 = .ok (.iload_n 2, 1) := by decide +kernel
theorem dX5_follow_13 : decode cX5_follow 13 = .ok (.istore 4, 2) := by decide +kernel
theorem dX5_follow_15 : decode cX5_follow 15 = .ok (.iload_n 3, 1) := by decide +kernel
theorem dX5_follow_16 : decode cX5_follow 16 = .ok (.aload_n 0, 1) := by decide +kernel
theorem dX5_follow_17 : decode cX5_follow 17 = .ok (.getfield 12, 3) := by decide +kernel
theorem dX5_follow_20 : decode cX5_follow 20 = .ok (.getfield 67, 3) := by decide +kernel
theorem dX5_follow_23 : decode cX5_follow 23 = .ok (.if_icmp .eq 94, 3) := by decide +kernel
theorem dX5_follow_26 : decode cX5_follow 26 = .ok (.aload_n 0, 1) := by decide +kernel
theorem dX5_follow_27 : decode cX5_follow 27 = .ok (.getfield 60, 3) := by decide +kernel
theorem dX5_follow_30 : decode cX5_follow 30 = .ok (.bipush 24, 2) := by decide +kernel
theorem dX5_follow_32 : decode cX5_follow 32 = .ok (.if_icmp .ge 85, 3) := by decide +kernel
theorem dX5_follow_35 : decode cX5_follow 35 = .ok (.aload_n 0, 1) := by decide +kernel
theorem dX5_follow_36 : decode cX5_follow 36 = .ok (.iload_n 3, 1) := by decide +kernel
theorem dX5_follow_37 : decode cX5_follow 37 = .ok (.iload 4, 2) := by decide +kernel
theorem dX5_follow_39 : decode cX5_follow 39 = .ok (.invokevirtual 104, 3) := by decide +kernel
theorem dX5_follow_42 : decode cX5_follow 42 = .ok (.istore 5, 2) := by decide +kernel
theorem dX5_follow_44 : decode cX5_follow 44 = .ok (.iload 5, 2) := by decide +kernel
theorem dX5_follow_46 : decode cX5_follow 46 = .ok (.bipush (-9), 2) := by decide +kernel
theorem dX5_follow_48 : decode cX5_follow 48 = .ok (.if_icmp .ne 6, 3) := by decide +kernel
theorem dX5_follow_51 : decode cX5_follow 51 = .ok (.bipush (-9), 2) := by decide +kernel
theorem dX5_follow_53 : decode cX5_follow 53 = .ok (.ireturn, 1) := by decide +kernel
theorem dX5_follow_54 : decode cX5_follow 54 = .ok (.aload_n 0, 1) := by decide +kernel
theorem dX5_follow_55 : decode cX5_follow 55 = .ok (.getfield 12, 3) := by decide +kernel
theorem dX5_follow_58 : decode cX5_follow 58 = .ok (.iload 4, 2) := by decide +kernel
theorem dX5_follow_60 : decode cX5_follow 60 = .ok (.iload 5, 2) := by decide +kernel
theorem dX5_follow_62 : decode cX5_follow 62 = .ok (.invokevirtual 113, 3) := by decide +kernel
theorem dX5_follow_65 : decode cX5_follow 65 = .ok (.ifCond .eq 13, 3) := by decide +kernel
theorem dX5_follow_68 : decode cX5_follow 68 = .ok (.aload_n 0, 1) := by decide +kernel
theorem dX5_follow_69 : decode cX5_follow 69 = .ok (.dup, 1) := by decide +kernel
theorem dX5_follow_70 : decode cX5_follow 70 = .ok (.getfield 110, 3) := by decide +kernel
theorem dX5_follow_73 : decode cX5_follow 73 = .ok (.iconst 1, 1) := by decide +kernel
theorem dX5_follow_74 : decode cX5_follow 74 = .ok (.iadd, 1) := by decide +kernel
theorem dX5_follow_75 : decode cX5_follow 75 = .ok (.putfield 110, 3) := by decide +kernel
theorem dX5_follow_78 : decode cX5_follow 78 = .ok (.aload_n 0, 1) := by decide +kernel
theorem dX5_follow_79 : decode cX5_follow 79 = .ok (.getfield 32, 3) := by decide +kernel
theorem dX5_follow_82 : decode cX5_follow 82 = .ok (.aload_n 0, 1) := by decide +kernel
theorem dX5_follow_83 : decode cX5_follow 83 = .ok (.getfield 60, 3) := by decide +kernel
theorem dX5_follow_86 : decode cX5_follow 86 = .ok (.iload 5, 2) := by decide +kernel
theorem dX5_follow_88 : decode cX5_follow 88 = .ok (.iastore, 1) := by decide +kernel
theorem dX5_follow_89 : decode cX5_follow 89 = .ok (.aload_n 0, 1) := by decide +kernel
theorem dX5_follow_90 : decode cX5_follow 90 = .ok (.dup, 1) := by decide +kernel
theorem dX5_follow_91 : decode cX5_follow 91 = .ok (.getfield 60, 3) := by decide +kernel
theorem dX5_follow_94 : decode cX5_follow 94 = .ok (.iconst 1, 1) := by decide +kernel
theorem dX5_follow_95 : decode cX5_follow 95 = .ok (.iadd, 1) := by decide +kernel
theorem dX5_follow_96 : decode cX5_follow 96 = .ok (.putfield 60, 3) := by decide +kernel
theorem dX5_follow_99 : decode cX5_follow 99 = .ok (.aload_n 0, 1) := by decide +kernel
theorem dX5_follow_100 : decode cX5_follow 100 = .ok (.getfield 12, 3) := by decide +kernel
theorem dX5_follow_103 : decode cX5_follow 103 = .ok (.iload 5, 2) := by decide +kernel
theorem dX5_follow_105 : decode cX5_follow 105 = .ok (.iload_n 3, 1) := by decide +kernel
theorem dX5_follow_106 : decode cX5_follow 106 = .ok (.invokevirtual 116, 3) := by decide +kernel
theorem dX5_follow_109 : decode cX5_follow 109 = .ok (.istore_n 3, 1) := by decide +kernel
theorem dX5_follow_110 : decode cX5_follow 110 = .ok (.iload 5, 2) := by decide +kernel
theorem dX5_follow_112 : decode cX5_follow 112 = .ok (.istore 4, 2) := by decide +kernel
theorem dX5_follow_114 : decode cX5_follow 114 = .ok (.goto (-99), 3) := by decide +kernel
theorem dX5_follow_117 : decode cX5_follow 117 = .ok (.aload_n 0, 1) := by decide +kernel
theorem dX5_follow_118 : decode cX5_follow 118 = .ok (.iload_n 1, 1) := by decide +kernel
theorem dX5_follow_119 : decode cX5_follow 119 = .ok (.iload_n 2, 1) := by decide +kernel
theorem dX5_follow_120 : decode cX5_follow 120 = .ok (.invokevirtual 107, 3) := by decide +kernel
theorem dX5_follow_123 : decode cX5_follow 123 = .ok (.ireturn, 1) := by decide +kernel
theorem dX5_meetingsInRow_0 : decode cX5_meetingsInRow 0 = .ok (.iconst 0, 1) := by decide +kernel
theorem dX5_meetingsInRow_1 : decode cX5_meetingsInRow 1 = .ok (.istore_n 1, 1) := by decide +kernel
theorem dX5_meetingsInRow_2 : decode cX5_meetingsInRow 2 = .ok (.iload_n 1, 1) := by decide +kernel
theorem dX5_meetingsInRow_3 : decode cX5_meetingsInRow 3 = .ok (.bipush 12, 2) := by decide +kernel
theorem dX5_meetingsInRow_5 : decode cX5_meetingsInRow 5 = .ok (.if_icmp .ge 16, 3) := by decide +kernel
theorem dX5_meetingsInRow_8 : decode cX5_meetingsInRow 8 = .ok (.aload_n 0, 1) := by decide +kernel
theorem dX5_meetingsInRow_9 : decode cX5_meetingsInRow 9 = .ok (.getfield 29, 3) := by decide +kernel
theorem dX5_meetingsInRow_12 : decode cX5_meetingsInRow 12 = .ok (.iload_n 1, 1) := by decide +kernel
theorem dX5_meetingsInRow_13 : decode cX5_meetingsInRow 13 = .ok (.iconst 0, 1) := by decide +kernel
theorem dX5_meetingsInRow_14 : decode cX5_meetingsInRow 14 = .ok (.iastore, 1) := by decide +kernel
theorem dX5_meetingsInRow_15 : decode cX5_meetingsInRow 15 = .ok (.iinc 1 1, 3) := by decide +kernel
theorem dX5_meetingsInRow_18 : decode cX5_meetingsInRow 18 = .ok (.goto (-16), 3) := by decide +kernel
theorem dX5_meetingsInRow_21 : decode cX5_meetingsInRow 21 = .ok (.iconst 0, 1) := by decide +kernel
theorem dX5_meetingsInRow_22 : decode cX5_meetingsInRow 22 = .ok (.istore_n 1, 1) := by decide +kernel
theorem dX5_meetingsInRow_23 : decode cX5_meetingsInRow 23 = .ok (.iload_n 1, 1) := by decide +kernel
theorem dX5_meetingsInRow_24 : decode cX5_meetingsInRow 24 = .ok (.aload_n 0, 1) := by decide +kernel
theorem dX5_meetingsInRow_25 : decode cX5_meetingsInRow 25 = .ok (.getfield 60, 3) := by decide +kernel
theorem dX5_meetingsInRow_28 : decode cX5_meetingsInRow 28 = .ok (.if_icmp .ge 24, 3) := by decide +kernel
theorem dX5_meetingsInRow_31 : decode cX5_meetingsInRow 31 = .ok (.aload_n 0, 1) := by decide +kernel
theorem dX5_meetingsInRow_32 : decode cX5_meetingsInRow 32 = .ok (.getfield 29, 3) := by decide +kernel
theorem dX5_meetingsInRow_35 : decode cX5_meetingsInRow 35 = .ok (.aload_n 0, 1) := by decide +kernel
theorem dX5_meetingsInRow_36 : decode cX5_meetingsInRow 36 = .ok (.getfield 32, 3) := by decide +kernel
theorem dX5_meetingsInRow_39 : decode cX5_meetingsInRow 39 = .ok (.iload_n 1, 1) := by decide +kernel
theorem dX5_meetingsInRow_40 : decode cX5_meetingsInRow 40 = .ok (.iaload, 1) := by decide +kernel
theorem dX5_meetingsInRow_41 : decode cX5_meetingsInRow 41 = .ok (.dup2, 1) := by decide +kernel
theorem dX5_meetingsInRow_42 : decode cX5_meetingsInRow 42 = .ok (.iaload, 1) := by decide +kernel
theorem dX5_meetingsInRow_43 : decode cX5_meetingsInRow 43 = .ok (.iconst 1, 1) := by decide +kernel
theorem dX5_meetingsInRow_44 : decode cX5_meetingsInRow 44 = .ok (.iadd, 1) := by decide +kernel
theorem dX5_meetingsInRow_45 : decode cX5_meetingsInRow 45 = .ok (.iastore, 1) := by decide +kernel
theorem dX5_meetingsInRow_46 : decode cX5_meetingsInRow 46 = .ok (.iinc 1 1, 3) := by decide +kernel
theorem dX5_meetingsInRow_49 : decode cX5_meetingsInRow 49 = .ok (.goto (-26), 3) := by decide +kernel
theorem dX5_meetingsInRow_52 : decode cX5_meetingsInRow 52 = .ok (.iconst 0, 1) := by decide +kernel
theorem dX5_meetingsInRow_53 : decode cX5_meetingsInRow 53 = .ok (.istore_n 1, 1) := by decide +kernel
theorem dX5_meetingsInRow_54 : decode cX5_meetingsInRow 54 = .ok (.iconst 0, 1) := by decide +kernel
theorem dX5_meetingsInRow_55 : decode cX5_meetingsInRow 55 = .ok (.istore_n 2, 1) := by decide +kernel
theorem dX5_meetingsInRow_56 : decode cX5_meetingsInRow 56 = .ok (.iload_n 2, 1) := by decide +kernel
theorem dX5_meetingsInRow_57 : decode cX5_meetingsInRow 57 = .ok (.bipush 12, 2) := by decide +kernel
theorem dX5_meetingsInRow_59 : decode cX5_meetingsInRow 59 = .ok (.if_icmp .ge 25, 3) := by decide +kernel
theorem dX5_meetingsInRow_62 : decode cX5_meetingsInRow 62 = .ok (.iload_n 1, 1) := by decide +kernel
theorem dX5_meetingsInRow_63 : decode cX5_meetingsInRow 63 = .ok (.aload_n 0, 1) := by decide +kernel
theorem dX5_meetingsInRow_64 : decode cX5_meetingsInRow 64 = .ok (.getfield 29, 3) := by decide +kernel
theorem dX5_meetingsInRow_67 : decode cX5_meetingsInRow 67 = .ok (.iload_n 2, 1) := by decide +kernel
theorem dX5_meetingsInRow_68 : decode cX5_meetingsInRow 68 = .ok (.iaload, 1) := by decide +kernel
theorem dX5_meetingsInRow_69 : decode cX5_meetingsInRow 69 = .ok (.aload_n 0, 1) := by decide +kernel
theorem dX5_meetingsInRow_70 : decode cX5_meetingsInRow 70 = .ok (.getfield 29, 3) := by decide +kernel
theorem dX5_meetingsInRow_73 : decode cX5_meetingsInRow 73 = .ok (.iload_n 2, 1) := by decide +kernel
theorem dX5_meetingsInRow_74 : decode cX5_meetingsInRow 74 = .ok (.iaload, 1) := by decide +kernel
theorem dX5_meetingsInRow_75 : decode cX5_meetingsInRow 75 = .ok (.imul, 1) := by decide +kernel
theorem dX5_meetingsInRow_76 : decode cX5_meetingsInRow 76 = .ok (.iadd, 1) := by decide +kernel
theorem dX5_meetingsInRow_77 : decode cX5_meetingsInRow 77 = .ok (.istore_n 1, 1) := by decide +kernel
theorem dX5_meetingsInRow_78 : decode cX5_meetingsInRow 78 = .ok (.iinc 2 1, 3) := by decide +kernel
theorem dX5_meetingsInRow_81 : decode cX5_meetingsInRow 81 = .ok (.goto (-25), 3) := by decide +kernel
theorem dX5_meetingsInRow_84 : decode cX5_meetingsInRow 84 = .ok (.iload_n 1, 1) := by decide +kernel
theorem dX5_meetingsInRow_85 : decode cX5_meetingsInRow 85 = .ok (.ireturn, 1) := by decide +kernel
theorem dX6_init_0 : decode cX6_init 0 = .ok (.aload_n 0, 1) := by decide +kernel
theorem dX6_init_1 : decode cX6_init 1 = .ok (.invokespecial 1, 3) := by decide +kernel
theorem dX6_init_4 : decode cX6_init 4 = .ok (.aload_n 0, 1) := by decide +kernel
theorem dX6_init_5 : decode cX6_init 5 = .ok (.new 7, 3) := by decide +kernel
theorem dX6_init_8 : decode cX6_init 8 = .ok (.dup, 1) := by decide +kernel
theorem dX6_init_9 : decode cX6_init 9 = .ok (.invokespecial 9, 3) := by decide +kernel
theorem dX6_init_12 : decode cX6_init 12 = .ok (.putfield 10, 3) := by decide +kernel
theorem dX6_init_15 : decode cX6_init 15 = .ok (.aload_n 0, 1) := by decide +kernel
theorem dX6_init_16 : decode cX6_init 16 = .ok (.new 16, 3) := by decide +kernel
theorem dX6_init_19 : decode cX6_init 19 = .ok (.dup, 1) := by decide +kernel
theorem dX6_init_20 : decode cX6_init 20 = .ok (.invokespecial 18, 3) := by decide +kernel
theorem dX6_init_23 : decode cX6_init 23 = .ok (.putfield 19, 3) := by decide +kernel
theorem dX6_init_26 : decode cX6_init 26 = .ok (.aload_n 0, 1) := by decide +kernel
theorem dX6_init_27 : decode cX6_init 27 = .ok (.new 16, 3) := by decide +kernel
theorem dX6_init_30 : decode cX6_init 30 = .ok (.dup, 1) := by decide +kernel
theorem dX6_init_31 : decode cX6_init 31 = .ok (.invokespecial 18, 3) := by decide +kernel
theorem dX6_init_34 : decode cX6_init 34 = .ok (.putfield 23, 3) := by decide +kernel
theorem dX6_init_37 : decode cX6_init 37 = .ok (.aload_n 0, 1) := by decide +kernel
theorem dX6_init_38 : decode cX6_init 38 = .ok (.new 26, 3) := by decide +kernel
theorem dX6_init_41 : decode cX6_init 41 = .ok (.dup, 1) := by decide +kernel
theorem dX6_init_42 : decode cX6_init 42 = .ok (.invokespecial 28, 3) := by decide +kernel
theorem dX6_init_45 : decode cX6_init 45 = .ok (.putfield 29, 3) := by decide +kernel
theorem dX6_init_48 : decode cX6_init 48 = .ok (.aload_n 0, 1) := by decide +kernel
theorem dX6_init_49 : decode cX6_init 49 = .ok (.new 33, 3) := by decide +kernel
theorem dX6_init_52 : decode cX6_init 52 = .ok (.dup, 1) := by decide +kernel
theorem dX6_init_53 : decode cX6_init 53 = .ok (.invokespecial 35, 3) := by decide +kernel
theorem dX6_init_56 : decode cX6_init 56 = .ok (.putfield 36, 3) := by decide +kernel
theorem dX6_init_59 : decode cX6_init 59 = .ok (.aload_n 0, 1) := by decide +kernel
theorem dX6_init_60 : decode cX6_init 60 = .ok (.new 40, 3) := by decide +kernel
theorem dX6_init_63 : decode cX6_init 63 = .ok (.dup, 1) := by decide +kernel
theorem dX6_init_64 : decode cX6_init 64 = .ok (.invokespecial 42, 3) := by decide +kernel
theorem dX6_init_67 : decode cX6_init 67 = .ok (.putfield 43, 3) := by decide +kernel
theorem dX6_init_70 : decode cX6_init 70 = .ok (.aload_n 0, 1) := by decide +kernel
theorem dX6_init_71 : decode cX6_init 71 = .ok (.new 47, 3) := by decide +kernel
theorem dX6_init_74 : decode cX6_init 74 = .ok (.dup, 1) := by decide +kernel
theorem dX6_init_75 : decode cX6_init 75 = .ok (.invokespecial 49, 3) := by decide +kernel
theorem dX6_init_78 : decode cX6_init 78 = .ok (.putfield 50, 3) := by decide +kernel
theorem dX6_init_81 : decode cX6_init 81 = .ok (.aload_n 0, 1) := by decide +kernel
theorem dX6_init_82 : decode cX6_init 82 = .ok (.bipush 8, 2) := by decide +kernel
theorem dX6_init_84 : decode cX6_init 84 = .ok (.newarray .int, 2) := by decide +kernel
theorem dX6_init_86 : decode cX6_init 86 = .ok (.putfield 54, 3) := by decide +kernel
theorem dX6_init_89 : decode cX6_init 89 = .ok (.aload_n 0, 1) := by decide +kernel
theorem dX6_init_90 : decode cX6_init 90 = .ok (.iconst 5, 1) := by decide +kernel
theorem dX6_init_91 : decode cX6_init 91 = .ok (.newarray .int, 2) := by decide +kernel
theorem dX6_init_93 : decode cX6_init 93 = .ok (.putfield 58, 3) := by decide +kernel
theorem dX6_init_96 : decode cX6_init 96 = .ok (.aload_n 0, 1) := by decide +kernel
theorem dX6_init_97 : decode cX6_init 97 = .ok (.iconst 5, 1) := by decide +kernel
theorem dX6_init_98 : decode cX6_init 98 = .ok (.newarray .int, 2) := by decide +kernel
theorem dX6_init_100 : decode cX6_init 100 = .ok (.putfield 61, 3) := by decide +kernel
theorem dX6_init_103 : decode cX6_init 103 = .ok (.aload_n 0, 1) := by decide +kernel
theorem dX6_init_104 : decode cX6_init 104 = .ok (.iconst 2, 1) := by decide +kernel
theorem dX6_init_105 : decode cX6_init 105 = .ok (.anewarray 26, 3) := by decide +kernel
theorem dX6_init_108 : decode cX6_init 108 = .ok (.putfield 64, 3) := by decide +kernel
theorem dX6_init_111 : decode cX6_init 111 = .ok (.aload_n 0, 1) := by decide +kernel
theorem dX6_init_112 : decode cX6_init 112 = .ok (.iconst 2, 1) := by decide +kernel
theorem dX6_init_113 : decode cX6_init 113 = .ok (.newarray .boolean, 2) := by decide +kernel
theorem dX6_init_115 : decode cX6_init 115 = .ok (.putfield 68, 3) := by decide +kernel
theorem dX6_init_118 : decode cX6_init 118 = .ok (.iconst 0, 1) := by decide +kernel
theorem dX6_init_119 : decode cX6_init 119 = .ok (.istore_n 1, 1) := by decide +kernel
theorem dX6_init_120 : decode cX6_init 120 = .ok (.iload_n 1, 1) := by decide +kernel
theorem dX6_init_121 : decode cX6_init 121 = .ok (.iconst 2, 1) := by decide +kernel
theorem dX6_init_122 : decode cX6_init 122 = .ok (.if_icmp .ge 22, 3) := by decide +kernel
theorem dX6_init_125 : decode cX6_init 125 = .ok (.aload_n 0, 1) := by decide +kernel
theorem dX6_init_126 : decode cX6_init 126 = .ok (.getfield 64, 3) := by decide +kernel
theorem dX6_init_129 : decode cX6_init 129 = .ok (.iload_n 1, 1) := by decide +kernel
theorem dX6_init_130 : decode cX6_init 130 = .ok (.new 26, 3) := by decide +kernel
theorem dX6_init_133 : decode cX6_init 133 = .ok (.dup, 1) := by decide +kernel
theorem dX6_init_134 : decode cX6_init 134 = .ok (.invokespecial 28, 3) := by decide +kernel
theorem dX6_init_137 : decode cX6_init 137 = .ok (.aastore, 1) := by decide +kernel
theorem dX6_init_138 : decode cX6_init 138 = .ok (.iinc 1 1, 3) := by decide +kernel
theorem dX6_init_141 : decode cX6_init 141 = .ok (.goto (-21), 3) := by decide +kernel
theorem dX6_init_144 : decode cX6_init 144 = .ok (.aload_n 0, 1) := by decide +kernel
theorem dX6_init_145 : decode cX6_init 145 = .ok (.getfield 29, 3) := by decide +kernel
theorem dX6_init_148 : decode cX6_init 148 = .ok (.aload_n 0, 1) := by decide +kernel
theorem dX6_init_149 : decode cX6_init 149 = .ok (.getfield 19, 3) := by decide +kernel
theorem dX6_init_152 : decode cX6_init 152 = .ok (.getfield 72, 3) := by decide +kernel
theorem dX6_init_155 : decode cX6_init 155 = .ok (.invokevirtual 76, 3) := by decide +kernel
theorem dX6_init_158 : decode cX6_init 158 = .ok (.return_, 1) := by decide +kernel
theorem dX6_type_0 : decode cX6_type 0 = .ok (.iload_n 1, 1) := by decide +kernel
theorem dX6_type_1 : decode cX6_type 1 = .ok (.iconst 0, 1) := by decide +kernel
theorem dX6_type_2 : decode cX6_type 2 = .ok (.sipush 255, 3) := by decide +kernel
theorem dX6_type_5 : decode cX6_type 5 = .ok (.invokestatic 80, 3) := by decide +kernel
theorem dX6_type_8 : decode cX6_type 8 = .ok (.ifCond .ne 5, 3) := by decide +kernel
theorem dX6_type_11 : decode cX6_type 11 = .ok (.iconst (-1), 1) := by decide +kernel
theorem dX6_type_12 : decode cX6_type 12 = .ok (.ireturn, 1) := by decide +kernel
theorem dX6_type_13 : decode cX6_type 13 = .ok (.aload_n 0, 1) := by decide +kernel
theorem dX6_type_14 : decode cX6_type 14 = .ok (.getfield 10, 3) := by decide +kernel
theorem dX6_type_17 : decode cX6_type 17 = .ok (.iload_n 1, 1) := by decide +kernel
theorem dX6_type_18 : decode cX6_type 18 = .ok (.invokevirtual 84, 3) := by decide +kernel
theorem dX6_type_21 : decode cX6_type 21 = .ok (.ifCond .eq 13, 3) := by decide +kernel
theorem dX6_type_24 : decode cX6_type 24 = .ok (.aload_n 0, 1) := by decide +kernel
theorem dX6_type_25 : decode cX6_type 25 = .ok (.getfield 10, 3) := by decide +kernel
theorem dX6_type_28 : decode cX6_type 28 = .ok (.invokevirtual 88, 3) := by decide +kernel
theorem dX6_type_31 : decode cX6_type 31 = .ok (.goto 5, 3) := by decide +kernel
theorem dX6_type_34 : decode cX6_type 34 = .ok (.bipush (-3), 2) := by decide +kernel
theorem dX6_type_36 : decode cX6_type 36 = .ok (.ireturn, 1) := by decide +kernel
theorem dX6_clear_0 : decode cX6_clear 0 = .ok (.aload_n 0, 1) := by decide +kernel
theorem dX6_clear_1 : decode cX6_clear 1 = .ok (.getfield 10, 3) := by decide +kernel
theorem dX6_clear_4 : decode cX6_clear 4 = .ok (.invokevirtual 92, 3) := by decide +kernel
theorem dX6_clear_7 : decode cX6_clear 7 = .ok (.ireturn, 1) := by decide +kernel
theorem dX6_town_0 : decode cX6_town 0 = .ok (.aload_n 0, 1) := by decide +kernel
theorem dX6_town_1 : decode cX6_town 1 = .ok (.getfield 10, 3) := by decide +kernel
theorem dX6_town_4 : decode cX6_town 4 = .ok (.aload_n 0, 1) := by decide +kernel
theorem dX6_town_5 : decode cX6_town 5 = .ok (.getfield 23, 3) := by decide +kernel
theorem dX6_town_8 : decode cX6_town 8 = .ok (.invokevirtual 95, 3) := by decide +kernel
theorem dX6_town_11 : decode cX6_town 11 = .ok (.istore_n 1, 1) := by decide +kernel
theorem dX6_town_12 : decode cX6_town 12 = .ok (.iload_n 1, 1) := by decide +kernel
theorem dX6_town_13 : decode cX6_town 13 = .ok (.ifCond .ge 5, 3) := by decide +kernel
theorem dX6_town_16 : decode cX6_town 16 = .ok (.iload_n 1, 1) := by decide +kernel
theorem dX6_town_17 : decode cX6_town 17 = .ok (.ireturn, 1) := by decide +kernel
theorem dX6_town_18 : decode cX6_town 18 = .ok (.aload_n 0, 1) := by decide +kernel
theorem dX6_town_19 : decode cX6_town 19 = .ok (.getfield 23, 3) := by decide +kernel
theorem dX6_town_22 : decode cX6_town 22 = .ok (.astore_n 2, 1) := by decide +kernel
theorem dX6_town_23 : decode cX6_town 23 = .ok (.aload_n 0, 1) := by decide +kernel
theorem dX6_town_24 : decode cX6_town 24 = .ok (.aload_n 0, 1) := by decide +kernel
theorem dX6_town_25 : decode cX6_town 25 = .ok (.getfield 19, 3) := by decide +kernel
theorem dX6_town_28 : decode cX6_town 28 = .ok (.putfield 23, 3) := by decide +kernel
theorem dX6_town_31 : decode cX6_town 31 = .ok (.aload_n 0, 1) := by decide +kernel
theorem dX6_town_32 : decode cX6_town 32 = .ok (.aload_n 2, 1) := by decide +kernel
theorem dX6_town_33 : decode cX6_town 33 = .ok (.putfield 19, 3) := by decide +kernel
theorem dX6_town_36 : decode cX6_town 36 = .ok (.aload_n 0, 1) := by decide +kernel
theorem dX6_town_37 : decode cX6_town 37 = .ok (.getfield 10, 3) := by decide +kernel
theorem dX6_town_40 : decode cX6_town 40 = .ok (.invokevirtual 92, 3) := by decide +kernel
theorem dX6_town_43 : decode cX6_town 43 = .ok (.pop, 1) := by decide +kernel
theorem dX6_town_44 : decode cX6_town 44 = .ok (.aload_n 0, 1) := by decide +kernel
theorem dX6_town_45 : decode cX6_town 45 = .ok (.invokevirtual 99, 3) := by decide +kernel
theorem dX6_town_48 : decode cX6_town 48 = .ok (.iload_n 1, 1) := by decide +kernel
theorem dX6_town_49 : decode cX6_town 49 = .ok (.ireturn, 1) := by decide +kernel
theorem dX6_road_0 : decode cX6_road 0 = .ok (.aload_n 0, 1) := by decide +kernel
theorem dX6_road_1 : decode cX6_road 1 = .ok (.getfield 19, 3) := by decide +kernel
theorem dX6_road_4 : decode cX6_road 4 = .ok (.iload_n 1, 1) := by decide +kernel
theorem dX6_road_5 : decode cX6_road 5 = .ok (.invokevirtual 102, 3) := by decide +kernel
theorem dX6_road_8 : decode cX6_road 8 = .ok (.ifCond .ne 5, 3) := by decide +kernel
theorem dX6_road_11 : decode cX6_road 11 = .ok (.iconst (-1), 1) := by decide +kernel
theorem dX6_road_12 : decode cX6_road 12 = .ok (.ireturn, 1) := by decide +kernel
theorem dX6_road_13 : decode cX6_road 13 = .ok (.iload_n 2, 1) := by decide +kernel
theorem dX6_road_14 : decode cX6_road 14 = .ok (.tableswitch 101 0 5 #[38, 48, 58, 64, 74, 91], 38) := by decide +kernel
theorem dX6_road_52 : decode cX6_road 52 = .ok (.aload_n 0, 1) := by decide +kernel
theorem dX6_road_53 : decode cX6_road 53 = .ok (.getfield 19, 3) := by decide +kernel
theorem dX6_road_56 : decode cX6_road 56 = .ok (.getfield 105, 3) := by decide +kernel
theorem dX6_road_59 : decode cX6_road 59 = .ok (.iload_n 1, 1) := by decide +kernel
theorem dX6_road_60 : decode cX6_road 60 = .ok (.iaload, 1) := by decide +kernel
theorem dX6_road_61 : decode cX6_road 61 = .ok (.ireturn, 1) := by decide +kernel
theorem dX6_road_62 : decode cX6_road 62 = .ok (.aload_n 0, 1) := by decide +kernel
theorem dX6_road_63 : decode cX6_road 63 = .ok (.getfield 19, 3) := by decide +kernel
theorem dX6_road_66 : decode cX6_road 66 = .ok (.getfield 108, 3) := by decide +kernel
theorem dX6_road_69 : decode cX6_road 69 = .ok (.iload_n 1, 1) := by decide +kernel
theorem dX6_road_70 : decode cX6_road 70 = .ok (.iaload, 1) := by decide +kernel
theorem dX6_road_71 : decode cX6_road 71 = .ok (.ireturn, 1) := by decide +kernel
theorem dX6_road_72 : decode cX6_road 72 = .ok (.aload_n 0, 1) := by decide +kernel
theorem dX6_road_73 : decode cX6_road 73 = .ok (.iload_n 1, 1) := by decide +kernel
theorem dX6_road_74 : decode cX6_road 74 = .ok (.invokevirtual 111, 3) := by decide +kernel
theorem dX6_road_77 : decode cX6_road 77 = .ok (.ireturn, 1) := by decide +kernel
theorem dX6_road_78 : decode cX6_road 78 = .ok (.aload_n 0, 1) := by decide +kernel
theorem dX6_road_79 : decode cX6_road 79 = .ok (.getfield 29, 3) := by decide +kernel
theorem dX6_road_82 : decode cX6_road 82 = .ok (.getfield 115, 3) := by decide +kernel
theorem dX6_road_85 : decode cX6_road 85 = .ok (.iload_n 1, 1) := by decide +kernel
theorem dX6_road_86 : decode cX6_road 86 = .ok (.iaload, 1) := by decide +kernel
theorem dX6_road_87 : decode cX6_road 87 = .ok (.ireturn, 1) := by decide +kernel
theorem dX6_road_88 : decode cX6_road 88 = .ok (.aload_n 0, 1) := by decide +kernel
theorem dX6_road_89 : decode cX6_road 89 = .ok (.getfield 29, 3) := by decide +kernel
theorem dX6_road_92 : decode cX6_road 92 = .ok (.iload_n 1, 1) := by decide +kernel
theorem dX6_road_93 : decode cX6_road 93 = .ok (.invokevirtual 118, 3) := by decide +kernel
theorem dX6_road_96 : decode cX6_road 96 = .ok (.ifCond .eq 7, 3) := by decide +kernel
theorem dX6_road_99 : decode cX6_road 99 = .ok (.iconst 1, 1) := by decide +kernel
theorem dX6_road_100 : decode cX6_road 100 = .ok (.goto 4, 3) := by decide +kernel
theorem dX6_road_103 : decode cX6_road 103 = .ok (.iconst 0, 1) := by decide +kernel
theorem dX6_road_104 : decode cX6_road 104 = .ok (.ireturn, 1) := by decide +kernel
theorem dX6_road_105 : decode cX6_road 105 = .ok (.aload_n 0, 1) := by decide +kernel
theorem dX6_road_106 : decode cX6_road 106 = .ok (.getfield 19, 3) := by decide +kernel
theorem dX6_road_109 : decode cX6_road 109 = .ok (.getfield 121, 3) := by decide +kernel
theorem dX6_road_112 : decode cX6_road 112 = .ok (.iload_n 1, 1) := by decide +kernel
theorem dX6_road_113 : decode cX6_road 113 = .ok (.iaload, 1) := by decide +kernel
theorem dX6_road_114 : decode cX6_road 114 = .ok (.ireturn, 1) := by decide +kernel
theorem dX6_road_115 : decode cX6_road 115 = .ok (.iconst (-1), 1) := by decide +kernel
theorem dX6_road_116 : decode cX6_road 116 = .ok (.ireturn, 1) := by decide +kernel
theorem dX6_place_0 : decode cX6_place 0 = .ok (.aload_n 0, 1) := by decide +kernel
theorem dX6_place_1 : decode cX6_place 1 = .ok (.getfield 19, 3) := by decide +kernel
theorem dX6_place_4 : decode cX6_place 4 = .ok (.iload_n 1, 1) := by decide +kernel
theorem dX6_place_5 : decode cX6_place 5 = .ok (.invokevirtual 124, 3) := by decide +kernel
theorem dX6_place_8 : decode cX6_place 8 = .ok (.ifCond .eq 19, 3) := by decide +kernel
theorem dX6_place_11 : decode cX6_place 11 = .ok (.aload_n 0, 1) := by decide +kernel
theorem dX6_place_12 : decode cX6_place 12 = .ok (.getfield 19, 3) := by decide +kernel
theorem dX6_place_15 : decode cX6_place 15 = .ok (.iload_n 1, 1) := by decide +kernel
theorem dX6_place_16 : decode cX6_place 16 = .ok (.invokevirtual 127, 3) := by decide +kernel
theorem dX6_place_19 : decode cX6_place 19 = .ok (.aload_n 0, 1) := by decide +kernel
theorem dX6_place_20 : decode cX6_place 20 = .ok (.invokevirtual 130, 3) := by decide +kernel
theorem dX6_place_23 : decode cX6_place 23 = .ok (.iand, 1) := by decide +kernel
theorem dX6_place_24 : decode cX6_place 24 = .ok (.goto 4, 3) := by decide +kernel
theorem dX6_place_27 : decode cX6_place 27 = .ok (.iconst (-1), 1) := by decide +kernel
theorem dX6_place_28 : decode cX6_place 28 = .ok (.ireturn, 1) := by decide +kernel
theorem dX6_now_0 : decode cX6_now 0 = .ok (.iload_n 1, 1) := by decide +kernel
theorem dX6_now_1 : decode cX6_now 1 = .ok (.tableswitch 87 0 5 #[39, 47, 55, 63, 71, 79], 39) := by decide +kernel
theorem dX6_now_40 : decode cX6_now 40 = .ok (.aload_n 0, 1) := by decide +kernel
theorem dX6_now_41 : decode cX6_now 41 = .ok (.getfield 29, 3) := by decide +kernel
theorem dX6_now_44 : decode cX6_now 44 = .ok (.getfield 133, 3) := by decide +kernel
theorem dX6_now_47 : decode cX6_now 47 = .ok (.ireturn, 1) := by decide +kernel
theorem dX6_now_48 : decode cX6_now 48 = .ok (.aload_n 0, 1) := by decide +kernel
theorem dX6_now_49 : decode cX6_now 49 = .ok (.getfield 29, 3) := by decide +kernel
theorem dX6_now_52 : decode cX6_now 52 = .ok (.getfield 136, 3) := by decide +kernel
theorem dX6_now_55 : decode cX6_now 55 = .ok (.ireturn, 1) := by decide +kernel
theorem dX6_now_56 : decode cX6_now 56 = .ok (.aload_n 0, 1) := by decide +kernel
theorem dX6_now_57 : decode cX6_now 57 = .ok (.getfield 29, 3) := by decide +kernel
theorem dX6_now_60 : decode cX6_now 60 = .ok (.getfield 139, 3) := by decide +kernel
theorem dX6_now_63 : decode cX6_now 63 = .ok (.ireturn, 1) := by decide +kernel
theorem dX6_now_64 : decode cX6_now 64 = .ok (.aload_n 0, 1) := by decide +kernel
theorem dX6_now_65 : decode cX6_now 65 = .ok (.getfield 29, 3) := by decide +kernel
theorem dX6_now_68 : decode cX6_now 68 = .ok (.getfield 142, 3) := by decide +kernel
theorem dX6_now_71 : decode cX6_now 71 = .ok (.ireturn, 1) := by decide +kernel
theorem dX6_now_72 : decode cX6_now 72 = .ok (.aload_n 0, 1) := by decide +kernel
theorem dX6_now_73 : decode cX6_now 73 = .ok (.getfield 29, 3) := by decide +kernel
theorem dX6_now_76 : decode cX6_now 76 = .ok (.getfield 145, 3) := by decide +kernel
theorem dX6_now_79 : decode cX6_now 79 = .ok (.ireturn, 1) := by decide +kernel
theorem dX6_now_80 : decode cX6_now 80 = .ok (.aload_n 0, 1) := by decide +kernel
theorem dX6_now_81 : decode cX6_now 81 = .ok (.getfield 36, 3) := by decide +kernel
theorem dX6_now_84 : decode cX6_now 84 = .ok (.invokevirtual 148, 3) := by decide +kernel
theorem dX6_now_87 : decode cX6_now 87 = .ok (.ireturn, 1) := by decide +kernel
theorem dX6_now_88 : decode cX6_now 88 = .ok (.iconst (-1), 1) := by decide +kernel
theorem dX6_now_89 : decode cX6_now 89 = .ok (.ireturn, 1) := by decide +kernel
theorem dX6_takes_0 : decode cX6_takes 0 = .ok (.aload_n 0, 1) := by decide +kernel
theorem dX6_takes_1 : decode cX6_takes 1 = .ok (.getfield 19, 3) := by decide +kernel
theorem dX6_takes_4 : decode cX6_takes 4 = .ok (.iload_n 1, 1) := by decide +kernel
theorem dX6_takes_5 : decode cX6_takes 5 = .ok (.invokevirtual 102, 3) := by decide +kernel
theorem dX6_takes_8 : decode cX6_takes 8 = .ok (.ifCond .ne 5, 3) := by decide +kernel
theorem dX6_takes_11 : decode cX6_takes 11 = .ok (.iconst (-1), 1) := by decide +kernel
theorem dX6_takes_12 : decode cX6_takes 12 = .ok (.ireturn, 1) := by decide +kernel
theorem dX6_takes_13 : decode cX6_takes 13 = .ok (.aload_n 0, 1) := by decide +kernel
theorem dX6_takes_14 : decode cX6_takes 14 = .ok (.iload_n 1, 1) := by decide +kernel
theorem dX6_takes_15 : decode cX6_takes 15 = .ok (.aload_n 0, 1) := by decide +kernel
theorem dX6_takes_16 : decode cX6_takes 16 = .ok (.getfield 29, 3) := by decide +kernel
theorem dX6_takes_19 : decode cX6_takes 19 = .ok (.getfield 133, 3) := by decide +kernel
theorem dX6_takes_22 : decode cX6_takes 22 = .ok (.invokevirtual 149, 3) := by decide +kernel
theorem dX6_takes_25 : decode cX6_takes 25 = .ok (.ifCond .ne 6, 3) := by decide +kernel
theorem dX6_takes_28 : decode cX6_takes 28 = .ok (.bipush (-2), 2) := by decide +kernel
theorem dX6_takes_30 : decode cX6_takes 30 = .ok (.ireturn, 1) := by decide +kernel
theorem dX6_takes_31 : decode cX6_takes 31 = .ok (.aload_n 0, 1) := by decide +kernel
theorem dX6_takes_32 : decode cX6_takes 32 = .ok (.aload_n 0, 1) := by decide +kernel
theorem dX6_takes_33 : decode cX6_takes 33 = .ok (.getfield 29, 3) := by decide +kernel
theorem dX6_takes_36 : decode cX6_takes 36 = .ok (.getfield 136, 3) := by decide +kernel
theorem dX6_takes_39 : decode cX6_takes 39 = .ok (.iload_n 1, 1) := by decide +kernel
theorem dX6_takes_40 : decode cX6_takes 40 = .ok (.invokevirtual 153, 3) := by decide +kernel
theorem dX6_takes_43 : decode cX6_takes 43 = .ok (.istore_n 2, 1) := by decide +kernel
theorem dX6_takes_44 : decode cX6_takes 44 = .ok (.aload_n 0, 1) := by decide +kernel
theorem dX6_takes_45 : decode cX6_takes 45 = .ok (.getfield 29, 3) := by decide +kernel
theorem dX6_takes_48 : decode cX6_takes 48 = .ok (.getfield 139, 3) := by decide +kernel
theorem dX6_takes_51 : decode cX6_takes 51 = .ok (.iload_n 2, 1) := by decide +kernel
theorem dX6_takes_52 : decode cX6_takes 52 = .ok (.iadd, 1) := by decide +kernel
theorem dX6_takes_53 : decode cX6_takes 53 = .ok (.sipush 9999, 3) := by decide +kernel
theorem dX6_takes_56 : decode cX6_takes 56 = .ok (.if_icmp .le 6, 3) := by decide +kernel
theorem dX6_takes_59 : decode cX6_takes 59 = .ok (.bipush (-2), 2) := by decide +kernel
theorem dX6_takes_61 : decode cX6_takes 61 = .ok (.ireturn, 1) := by decide +kernel
theorem dX6_takes_62 : decode cX6_takes 62 = .ok (.aload_n 0, 1) := by decide +kernel
theorem dX6_takes_63 : decode cX6_takes 63 = .ok (.getfield 36, 3) := by decide +kernel
theorem dX6_takes_66 : decode cX6_takes 66 = .ok (.aload_n 0, 1) := by decide +kernel
theorem dX6_takes_67 : decode cX6_takes 67 = .ok (.getfield 29, 3) := by decide +kernel
theorem dX6_takes_70 : decode cX6_takes 70 = .ok (.invokevirtual 157, 3) := by decide +kernel
theorem dX6_takes_73 : decode cX6_takes 73 = .ok (.aload_n 0, 1) := by decide +kernel
theorem dX6_takes_74 : decode cX6_takes 74 = .ok (.getfield 19, 3) := by decide +kernel
theorem dX6_takes_77 : decode cX6_takes 77 = .ok (.aload_n 0, 1) := by decide +kernel
theorem dX6_takes_78 : decode cX6_takes 78 = .ok (.getfield 29, 3) := by decide +kernel
theorem dX6_takes_81 : decode cX6_takes 81 = .ok (.getfield 136, 3) := by decide +kernel
theorem dX6_takes_84 : decode cX6_takes 84 = .ok (.iload_n 1, 1) := by decide +kernel
theorem dX6_takes_85 : decode cX6_takes 85 = .ok (.invokevirtual 161, 3) := by decide +kernel
theorem dX6_takes_88 : decode cX6_takes 88 = .ok (.ifCond .eq 16, 3) := by decide +kernel
theorem dX6_takes_91 : decode cX6_takes 91 = .ok (.aload_n 0, 1) := by decide +kernel
theorem dX6_takes_92 : decode cX6_takes 92 = .ok (.getfield 29, 3) := by decide +kernel
theorem dX6_takes_95 : decode cX6_takes 95 = .ok (.dup, 1) := by decide +kernel
theorem dX6_takes_96 : decode cX6_takes 96 = .ok (.getfield 142, 3) := by decide +kernel
theorem dX6_takes_99 : decode cX6_takes 99 = .ok (.iconst 1, 1) := by decide +kernel
theorem dX6_takes_100 : decode cX6_takes 100 = .ok (.iadd, 1) := by decide +kernel
theorem dX6_takes_101 : decode cX6_takes 101 = .ok (.putfield 142, 3) := by decide +kernel
theorem dX6_takes_104 : decode cX6_takes 104 = .ok (.aload_n 0, 1) := by decide +kernel
theorem dX6_takes_105 : decode cX6_takes 105 = .ok (.getfield 29, 3) := by decide +kernel
theorem dX6_takes_108 : decode cX6_takes 108 = .ok (.dup, 1) := by decide +kernel
theorem dX6_takes_109 : decode cX6_takes 109 = .ok (.getfield 139, 3) := by decide +kernel
theorem dX6_takes_112 : decode cX6_takes 112 = .ok (.iload_n 2, 1) := by decide +kernel
theorem dX6_takes_113 : decode cX6_takes 113 = .ok (.iadd, 1) := by decide +kernel
theorem dX6_takes_114 : decode cX6_takes 114 = .ok (.putfield 139, 3) := by decide +kernel
theorem dX6_takes_117 : decode cX6_takes 117 = .ok (.aload_n 0, 1) := by decide +kernel
theorem dX6_takes_118 : decode cX6_takes 118 = .ok (.getfield 29, 3) := by decide +kernel
theorem dX6_takes_121 : decode cX6_takes 121 = .ok (.aload_n 0, 1) := by decide +kernel
theorem dX6_takes_122 : decode cX6_takes 122 = .ok (.getfield 19, 3) := by decide +kernel
theorem dX6_takes_125 : decode cX6_takes 125 = .ok (.iload_n 1, 1) := by decide +kernel
theorem dX6_takes_126 : decode cX6_takes 126 = .ok (.aload_n 0, 1) := by decide +kernel
theorem dX6_takes_127 : decode cX6_takes 127 = .ok (.getfield 29, 3) := by decide +kernel
theorem dX6_takes_130 : decode cX6_takes 130 = .ok (.getfield 133, 3) := by decide +kernel
theorem dX6_takes_133 : decode cX6_takes 133 = .ok (.invokevirtual 164, 3) := by decide +kernel
theorem dX6_takes_136 : decode cX6_takes 136 = .ok (.putfield 133, 3) := by decide +kernel
theorem dX6_takes_139 : decode cX6_takes 139 = .ok (.aload_n 0, 1) := by decide +kernel
theorem dX6_takes_140 : decode cX6_takes 140 = .ok (.getfield 29, 3) := by decide +kernel
theorem dX6_takes_143 : decode cX6_takes 143 = .ok (.iload_n 1, 1) := by decide +kernel
theorem dX6_takes_144 : decode cX6_takes 144 = .ok (.putfield 136, 3) := by decide +kernel
theorem dX6_takes_147 : decode cX6_takes 147 = .ok (.iload_n 2, 1) := by decide +kernel
theorem dX6_takes_148 : decode cX6_takes 148 = .ok (.ireturn, 1) := by decide +kernel
theorem dX6_jams_0 : decode cX6_jams 0 = .ok (.aload_n 0, 1) := by decide +kernel
theorem dX6_jams_1 : decode cX6_jams 1 = .ok (.getfield 19, 3) := by decide +kernel
theorem dX6_jams_4 : decode cX6_jams 4 = .ok (.iload_n 1, 1) := by decide +kernel
theorem dX6_jams_5 : decode cX6_jams 5 = .ok (.invokevirtual 102, 3) := by decide +kernel
theorem dX6_jams_8 : decode cX6_jams 8 = .ok (.ifCond .eq 13, 3) := by decide +kernel
theorem dX6_jams_11 : decode cX6_jams 11 = .ok (.iload_n 2, 1) := by decide +kernel
theorem dX6_jams_12 : decode cX6_jams 12 = .ok (.iconst 0, 1) := by decide +kernel
theorem dX6_jams_13 : decode cX6_jams 13 = .ok (.bipush 60, 2) := by decide +kernel
theorem dX6_jams_15 : decode cX6_jams 15 = .ok (.invokestatic 80, 3) := by decide +kernel
theorem dX6_jams_18 : decode cX6_jams 18 = .ok (.ifCond .ne 5, 3) := by decide +kernel
theorem dX6_jams_21 : decode cX6_jams 21 = .ok (.iconst (-1), 1) := by decide +kernel
theorem dX6_jams_22 : decode cX6_jams 22 = .ok (.ireturn, 1) := by decide +kernel
theorem dX6_jams_23 : decode cX6_jams 23 = .ok (.aload_n 0, 1) := by decide +kernel
theorem dX6_jams_24 : decode cX6_jams 24 = .ok (.getfield 36, 3) := by decide +kernel
theorem dX6_jams_27 : decode cX6_jams 27 = .ok (.aload_n 0, 1) := by decide +kernel
theorem dX6_jams_28 : decode cX6_jams 28 = .ok (.getfield 29, 3) := by decide +kernel
theorem dX6_jams_31 : decode cX6_jams 31 = .ok (.invokevirtual 157, 3) := by decide +kernel
theorem dX6_jams_34 : decode cX6_jams 34 = .ok (.aload_n 0, 1) := by decide +kernel
theorem dX6_jams_35 : decode cX6_jams 35 = .ok (.getfield 29, 3) := by decide +kernel
theorem dX6_jams_38 : decode cX6_jams 38 = .ok (.getfield 115, 3) := by decide +kernel
theorem dX6_jams_41 : decode cX6_jams 41 = .ok (.iload_n 1, 1) := by decide +kernel
theorem dX6_jams_42 : decode cX6_jams 42 = .ok (.iaload, 1) := by decide +kernel
theorem dX6_jams_43 : decode cX6_jams 43 = .ok (.istore_n 3, 1) := by decide +kernel
theorem dX6_jams_44 : decode cX6_jams 44 = .ok (.aload_n 0, 1) := by decide +kernel
theorem dX6_jams_45 : decode cX6_jams 45 = .ok (.getfield 29, 3) := by decide +kernel
theorem dX6_jams_48 : decode cX6_jams 48 = .ok (.getfield 115, 3) := by decide +kernel
theorem dX6_jams_51 : decode cX6_jams 51 = .ok (.iload_n 1, 1) := by decide +kernel
theorem dX6_jams_52 : decode cX6_jams 52 = .ok (.iload_n 2, 1) := by decide +kernel
theorem dX6_jams_53 : decode cX6_jams 53 = .ok (.iastore, 1) := by decide +kernel
theorem dX6_jams_54 : decode cX6_jams 54 = .ok (.iload_n 3, 1) := by decide +kernel
theorem dX6_jams_55 : decode cX6_jams 55 = .ok (.ireturn, 1) := by decide +kernel
theorem dX6_shuts_0 : decode cX6_shuts 0 = .ok (.aload_n 0, 1) := by decide +kernel
theorem dX6_shuts_1 : decode cX6_shuts 1 = .ok (.getfield 19, 3) := by decide +kernel
theorem dX6_shuts_4 : decode cX6_shuts 4 = .ok (.iload_n 1, 1) := by decide +kernel
theorem dX6_shuts_5 : decode cX6_shuts 5 = .ok (.invokevirtual 102, 3) := by decide +kernel
theorem dX6_shuts_8 : decode cX6_shuts 8 = .ok (.ifCond .eq 12, 3) := by decide +kernel
theorem dX6_shuts_11 : decode cX6_shuts 11 = .ok (.iload_n 2, 1) := by decide +kernel
theorem dX6_shuts_12 : decode cX6_shuts 12 = .ok (.iconst 0, 1) := by decide +kernel
theorem dX6_shuts_13 : decode cX6_shuts 13 = .ok (.iconst 1, 1) := by decide +kernel
theorem dX6_shuts_14 : decode cX6_shuts 14 = .ok (.invokestatic 80, 3) := by decide +kernel
theorem dX6_shuts_17 : decode cX6_shuts 17 = .ok (.ifCond .ne 5, 3) := by decide +kernel
theorem dX6_shuts_20 : decode cX6_shuts 20 = .ok (.iconst (-1), 1) := by decide +kernel
theorem dX6_shuts_21 : decode cX6_shuts 21 = .ok (.ireturn, 1) := by decide +kernel
theorem dX6_shuts_22 : decode cX6_shuts 22 = .ok (.aload_n 0, 1) := by decide +kernel
theorem dX6_shuts_23 : decode cX6_shuts 23 = .ok (.getfield 29, 3) := by decide +kernel
theorem dX6_shuts_26 : decode cX6_shuts 26 = .ok (.iload_n 1, 1) := by decide +kernel
theorem dX6_shuts_27 : decode cX6_shuts 27 = .ok (.invokevirtual 118, 3) := by decide +kernel
theorem dX6_shuts_30 : decode cX6_shuts 30 = .ok (.iload_n 2, 1) := by decide +kernel
theorem dX6_shuts_31 : decode cX6_shuts 31 = .ok (.iconst 1, 1) := by decide +kernel
theorem dX6_shuts_32 : decode cX6_shuts 32 = .ok (.if_icmp .ne 7, 3) := by decide +kernel
theorem dX6_shuts_35 : decode cX6_shuts 35 = .ok (.iconst 1, 1) := by decide +kernel
theorem dX6_shuts_36 : decode cX6_shuts 36 = .ok (.goto 4, 3) := by decide +kernel
theorem dX6_shuts_39 : decode cX6_shuts 39 = .ok (.iconst 0, 1) := by decide +kernel
theorem dX6_shuts_40 : decode cX6_shuts 40 = .ok (.if_icmp .ne 6, 3) := by decide +kernel
theorem dX6_shuts_43 : decode cX6_shuts 43 = .ok (.bipush (-2), 2) := by decide +kernel
theorem dX6_shuts_45 : decode cX6_shuts 45 = .ok (.ireturn, 1) := by decide +kernel
end
section
theorem dX6_shuts_46 : decode cX6_shuts 46 = .ok (.aload_n 0, 1) := by decide +kernel
theorem dX6_shuts_47 : decode cX6_shuts 47 = .ok (.getfield 36, 3) := by decide +kernel
theorem dX6_shuts_50 : decode cX6_shuts 50 = .ok (.aload_n 0, 1) := by decide +kernel
theorem dX6_shuts_51 : decode cX6_shuts 51 = .ok (.getfield 29, 3) := by decide +kernel
theorem dX6_shuts_54 : decode cX6_shuts 54 = .ok (.invokevirtual 157, 3) := by decide +kernel
theorem dX6_shuts_57 : decode cX6_shuts 57 = .ok (.aload_n 0, 1) := by decide +kernel
theorem dX6_shuts_58 : decode cX6_shuts 58 = .ok (.getfield 29, 3) := by decide +kernel
theorem dX6_shuts_61 : decode cX6_shuts 61 = .ok (.dup, 1) := by decide +kernel
theorem dX6_shuts_62 : decode cX6_shuts 62 = .ok (.getfield 145, 3) := by decide +kernel
theorem dX6_shuts_65 : decode cX6_shuts 65 = .ok (.iconst 1, 1) := by decide +kernel
theorem dX6_shuts_66 : decode cX6_shuts 66 = .ok (.iload_n 1, 1) := by decide +kernel
theorem dX6_shuts_67 : decode cX6_shuts 67 = .ok (.ishl, 1) := by decide +kernel
theorem dX6_shuts_68 : decode cX6_shuts 68 = .ok (.ixor, 1) := by decide +kernel
theorem dX6_shuts_69 : decode cX6_shuts 69 = .ok (.putfield 145, 3) := by decide +kernel
theorem dX6_shuts_72 : decode cX6_shuts 72 = .ok (.aload_n 0, 1) := by decide +kernel
theorem dX6_shuts_73 : decode cX6_shuts 73 = .ok (.getfield 29, 3) := by decide +kernel
theorem dX6_shuts_76 : decode cX6_shuts 76 = .ok (.getfield 145, 3) := by decide +kernel
theorem dX6_shuts_79 : decode cX6_shuts 79 = .ok (.invokestatic 167, 3) := by decide +kernel
theorem dX6_shuts_82 : decode cX6_shuts 82 = .ok (.ireturn, 1) := by decide +kernel
theorem dX6_undo_0 : decode cX6_undo 0 = .ok (.aload_n 0, 1) := by decide +kernel
theorem dX6_undo_1 : decode cX6_undo 1 = .ok (.getfield 36, 3) := by decide +kernel
theorem dX6_undo_4 : decode cX6_undo 4 = .ok (.aload_n 0, 1) := by decide +kernel
theorem dX6_undo_5 : decode cX6_undo 5 = .ok (.getfield 29, 3) := by decide +kernel
theorem dX6_undo_8 : decode cX6_undo 8 = .ok (.invokevirtual 172, 3) := by decide +kernel
theorem dX6_undo_11 : decode cX6_undo 11 = .ok (.ifCond .eq 13, 3) := by decide +kernel
theorem dX6_undo_14 : decode cX6_undo 14 = .ok (.aload_n 0, 1) := by decide +kernel
theorem dX6_undo_15 : decode cX6_undo 15 = .ok (.getfield 36, 3) := by decide +kernel
theorem dX6_undo_18 : decode cX6_undo 18 = .ok (.invokevirtual 148, 3) := by decide +kernel
theorem dX6_undo_21 : decode cX6_undo 21 = .ok (.goto 5, 3) := by decide +kernel
theorem dX6_undo_24 : decode cX6_undo 24 = .ok (.bipush (-2), 2) := by decide +kernel
theorem dX6_undo_26 : decode cX6_undo 26 = .ok (.ireturn, 1) := by decide +kernel
theorem dX6_way_0 : decode cX6_way 0 = .ok (.iload_n 1, 1) := by decide +kernel
theorem dX6_way_1 : decode cX6_way 1 = .ok (.bipush (-2), 2) := by decide +kernel
theorem dX6_way_3 : decode cX6_way 3 = .ok (.if_icmp .ge 5, 3) := by decide +kernel
theorem dX6_way_6 : decode cX6_way 6 = .ok (.iconst (-1), 1) := by decide +kernel
theorem dX6_way_7 : decode cX6_way 7 = .ok (.ireturn, 1) := by decide +kernel
theorem dX6_way_8 : decode cX6_way 8 = .ok (.aload_n 0, 1) := by decide +kernel
theorem dX6_way_9 : decode cX6_way 9 = .ok (.getfield 43, 3) := by decide +kernel
theorem dX6_way_12 : decode cX6_way 12 = .ok (.aload_n 0, 1) := by decide +kernel
theorem dX6_way_13 : decode cX6_way 13 = .ok (.getfield 19, 3) := by decide +kernel
theorem dX6_way_16 : decode cX6_way 16 = .ok (.aload_n 0, 1) := by decide +kernel
theorem dX6_way_17 : decode cX6_way 17 = .ok (.getfield 29, 3) := by decide +kernel
theorem dX6_way_20 : decode cX6_way 20 = .ok (.invokevirtual 176, 3) := by decide +kernel
theorem dX6_way_23 : decode cX6_way 23 = .ok (.aload_n 0, 1) := by decide +kernel
theorem dX6_way_24 : decode cX6_way 24 = .ok (.getfield 43, 3) := by decide +kernel
theorem dX6_way_27 : decode cX6_way 27 = .ok (.aload_n 0, 1) := by decide +kernel
theorem dX6_way_28 : decode cX6_way 28 = .ok (.getfield 29, 3) := by decide +kernel
theorem dX6_way_31 : decode cX6_way 31 = .ok (.getfield 133, 3) := by decide +kernel
theorem dX6_way_34 : decode cX6_way 34 = .ok (.aload_n 0, 1) := by decide +kernel
theorem dX6_way_35 : decode cX6_way 35 = .ok (.getfield 29, 3) := by decide +kernel
theorem dX6_way_38 : decode cX6_way 38 = .ok (.getfield 136, 3) := by decide +kernel
theorem dX6_way_41 : decode cX6_way 41 = .ok (.invokevirtual 180, 3) := by decide +kernel
theorem dX6_way_44 : decode cX6_way 44 = .ok (.istore_n 2, 1) := by decide +kernel
theorem dX6_way_45 : decode cX6_way 45 = .ok (.iload_n 2, 1) := by decide +kernel
theorem dX6_way_46 : decode cX6_way 46 = .ok (.bipush (-9), 2) := by decide +kernel
theorem dX6_way_48 : decode cX6_way 48 = .ok (.if_icmp .eq 8, 3) := by decide +kernel
theorem dX6_way_51 : decode cX6_way 51 = .ok (.iload_n 1, 1) := by decide +kernel
theorem dX6_way_52 : decode cX6_way 52 = .ok (.iconst (-1), 1) := by decide +kernel
theorem dX6_way_53 : decode cX6_way 53 = .ok (.if_icmp .ne 5, 3) := by decide +kernel
theorem dX6_way_56 : decode cX6_way 56 = .ok (.iload_n 2, 1) := by decide +kernel
theorem dX6_way_57 : decode cX6_way 57 = .ok (.ireturn, 1) := by decide +kernel
theorem dX6_way_58 : decode cX6_way 58 = .ok (.iload_n 1, 1) := by decide +kernel
theorem dX6_way_59 : decode cX6_way 59 = .ok (.bipush (-2), 2) := by decide +kernel
theorem dX6_way_61 : decode cX6_way 61 = .ok (.if_icmp .ne 11, 3) := by decide +kernel
theorem dX6_way_64 : decode cX6_way 64 = .ok (.aload_n 0, 1) := by decide +kernel
theorem dX6_way_65 : decode cX6_way 65 = .ok (.getfield 43, 3) := by decide +kernel
theorem dX6_way_68 : decode cX6_way 68 = .ok (.getfield 183, 3) := by decide +kernel
theorem dX6_way_71 : decode cX6_way 71 = .ok (.ireturn, 1) := by decide +kernel
theorem dX6_way_72 : decode cX6_way 72 = .ok (.iload_n 1, 1) := by decide +kernel
theorem dX6_way_73 : decode cX6_way 73 = .ok (.aload_n 0, 1) := by decide +kernel
theorem dX6_way_74 : decode cX6_way 74 = .ok (.getfield 43, 3) := by decide +kernel
theorem dX6_way_77 : decode cX6_way 77 = .ok (.getfield 186, 3) := by decide +kernel
theorem dX6_way_80 : decode cX6_way 80 = .ok (.if_icmp .ge 15, 3) := by decide +kernel
theorem dX6_way_83 : decode cX6_way 83 = .ok (.aload_n 0, 1) := by decide +kernel
theorem dX6_way_84 : decode cX6_way 84 = .ok (.getfield 43, 3) := by decide +kernel
theorem dX6_way_87 : decode cX6_way 87 = .ok (.getfield 189, 3) := by decide +kernel
theorem dX6_way_90 : decode cX6_way 90 = .ok (.iload_n 1, 1) := by decide +kernel
theorem dX6_way_91 : decode cX6_way 91 = .ok (.iaload, 1) := by decide +kernel
theorem dX6_way_92 : decode cX6_way 92 = .ok (.goto 5, 3) := by decide +kernel
theorem dX6_way_95 : decode cX6_way 95 = .ok (.bipush (-5), 2) := by decide +kernel
theorem dX6_way_97 : decode cX6_way 97 = .ok (.ireturn, 1) := by decide +kernel
theorem dX6_round_0 : decode cX6_round 0 = .ok (.aload_n 0, 1) := by decide +kernel
theorem dX6_round_1 : decode cX6_round 1 = .ok (.getfield 43, 3) := by decide +kernel
theorem dX6_round_4 : decode cX6_round 4 = .ok (.aload_n 0, 1) := by decide +kernel
theorem dX6_round_5 : decode cX6_round 5 = .ok (.getfield 19, 3) := by decide +kernel
theorem dX6_round_8 : decode cX6_round 8 = .ok (.aload_n 0, 1) := by decide +kernel
theorem dX6_round_9 : decode cX6_round 9 = .ok (.getfield 29, 3) := by decide +kernel
theorem dX6_round_12 : decode cX6_round 12 = .ok (.invokevirtual 176, 3) := by decide +kernel
theorem dX6_round_15 : decode cX6_round 15 = .ok (.aload_n 0, 1) := by decide +kernel
theorem dX6_round_16 : decode cX6_round 16 = .ok (.getfield 29, 3) := by decide +kernel
theorem dX6_round_19 : decode cX6_round 19 = .ok (.getfield 133, 3) := by decide +kernel
theorem dX6_round_22 : decode cX6_round 22 = .ok (.aload_n 0, 1) := by decide +kernel
theorem dX6_round_23 : decode cX6_round 23 = .ok (.getfield 19, 3) := by decide +kernel
theorem dX6_round_26 : decode cX6_round 26 = .ok (.getfield 192, 3) := by decide +kernel
theorem dX6_round_29 : decode cX6_round 29 = .ok (.if_icmp .ne 6, 3) := by decide +kernel
theorem dX6_round_32 : decode cX6_round 32 = .ok (.bipush (-9), 2) := by decide +kernel
theorem dX6_round_34 : decode cX6_round 34 = .ok (.ireturn, 1) := by decide +kernel
theorem dX6_round_35 : decode cX6_round 35 = .ok (.aload_n 0, 1) := by decide +kernel
theorem dX6_round_36 : decode cX6_round 36 = .ok (.getfield 43, 3) := by decide +kernel
theorem dX6_round_39 : decode cX6_round 39 = .ok (.aload_n 0, 1) := by decide +kernel
theorem dX6_round_40 : decode cX6_round 40 = .ok (.getfield 29, 3) := by decide +kernel
theorem dX6_round_43 : decode cX6_round 43 = .ok (.getfield 133, 3) := by decide +kernel
theorem dX6_round_46 : decode cX6_round 46 = .ok (.aload_n 0, 1) := by decide +kernel
theorem dX6_round_47 : decode cX6_round 47 = .ok (.getfield 29, 3) := by decide +kernel
theorem dX6_round_50 : decode cX6_round 50 = .ok (.getfield 136, 3) := by decide +kernel
theorem dX6_round_53 : decode cX6_round 53 = .ok (.invokevirtual 195, 3) := by decide +kernel
theorem dX6_round_56 : decode cX6_round 56 = .ok (.istore_n 1, 1) := by decide +kernel
theorem dX6_round_57 : decode cX6_round 57 = .ok (.iload_n 1, 1) := by decide +kernel
theorem dX6_round_58 : decode cX6_round 58 = .ok (.bipush (-9), 2) := by decide +kernel
theorem dX6_round_60 : decode cX6_round 60 = .ok (.if_icmp .ne 6, 3) := by decide +kernel
theorem dX6_round_63 : decode cX6_round 63 = .ok (.bipush (-9), 2) := by decide +kernel
theorem dX6_round_65 : decode cX6_round 65 = .ok (.ireturn, 1) := by decide +kernel
theorem dX6_round_66 : decode cX6_round 66 = .ok (.iload_n 1, 1) := by decide +kernel
theorem dX6_round_67 : decode cX6_round 67 = .ok (.aload_n 0, 1) := by decide +kernel
theorem dX6_round_68 : decode cX6_round 68 = .ok (.getfield 29, 3) := by decide +kernel
theorem dX6_round_71 : decode cX6_round 71 = .ok (.getfield 136, 3) := by decide +kernel
theorem dX6_round_74 : decode cX6_round 74 = .ok (.if_icmp .ne 7, 3) := by decide +kernel
theorem dX6_round_77 : decode cX6_round 77 = .ok (.iconst 1, 1) := by decide +kernel
theorem dX6_round_78 : decode cX6_round 78 = .ok (.goto 4, 3) := by decide +kernel
theorem dX6_round_81 : decode cX6_round 81 = .ok (.iconst 0, 1) := by decide +kernel
theorem dX6_round_82 : decode cX6_round 82 = .ok (.ireturn, 1) := by decide +kernel
theorem dX6_on_0 : decode cX6_on 0 = .ok (.aload_n 0, 1) := by decide +kernel
theorem dX6_on_1 : decode cX6_on 1 = .ok (.getfield 19, 3) := by decide +kernel
theorem dX6_on_4 : decode cX6_on 4 = .ok (.iload_n 1, 1) := by decide +kernel
theorem dX6_on_5 : decode cX6_on 5 = .ok (.invokevirtual 102, 3) := by decide +kernel
theorem dX6_on_8 : decode cX6_on 8 = .ok (.ifCond .eq 18, 3) := by decide +kernel
theorem dX6_on_11 : decode cX6_on 11 = .ok (.aload_n 0, 1) := by decide +kernel
theorem dX6_on_12 : decode cX6_on 12 = .ok (.iload_n 1, 1) := by decide +kernel
theorem dX6_on_13 : decode cX6_on 13 = .ok (.aload_n 0, 1) := by decide +kernel
theorem dX6_on_14 : decode cX6_on 14 = .ok (.getfield 29, 3) := by decide +kernel
theorem dX6_on_17 : decode cX6_on 17 = .ok (.getfield 133, 3) := by decide +kernel
theorem dX6_on_20 : decode cX6_on 20 = .ok (.invokevirtual 149, 3) := by decide +kernel
theorem dX6_on_23 : decode cX6_on 23 = .ok (.ifCond .ne 5, 3) := by decide +kernel
theorem dX6_on_26 : decode cX6_on 26 = .ok (.iconst (-1), 1) := by decide +kernel
theorem dX6_on_27 : decode cX6_on 27 = .ok (.ireturn, 1) := by decide +kernel
theorem dX6_on_28 : decode cX6_on 28 = .ok (.aload_n 0, 1) := by decide +kernel
theorem dX6_on_29 : decode cX6_on 29 = .ok (.getfield 43, 3) := by decide +kernel
theorem dX6_on_32 : decode cX6_on 32 = .ok (.aload_n 0, 1) := by decide +kernel
theorem dX6_on_33 : decode cX6_on 33 = .ok (.getfield 19, 3) := by decide +kernel
theorem dX6_on_36 : decode cX6_on 36 = .ok (.aload_n 0, 1) := by decide +kernel
theorem dX6_on_37 : decode cX6_on 37 = .ok (.getfield 29, 3) := by decide +kernel
theorem dX6_on_40 : decode cX6_on 40 = .ok (.invokevirtual 176, 3) := by decide +kernel
theorem dX6_on_43 : decode cX6_on 43 = .ok (.aload_n 0, 1) := by decide +kernel
theorem dX6_on_44 : decode cX6_on 44 = .ok (.getfield 43, 3) := by decide +kernel
theorem dX6_on_47 : decode cX6_on 47 = .ok (.iload_n 1, 1) := by decide +kernel
theorem dX6_on_48 : decode cX6_on 48 = .ok (.aload_n 0, 1) := by decide +kernel
theorem dX6_on_49 : decode cX6_on 49 = .ok (.getfield 29, 3) := by decide +kernel
theorem dX6_on_52 : decode cX6_on 52 = .ok (.getfield 133, 3) := by decide +kernel
theorem dX6_on_55 : decode cX6_on 55 = .ok (.aload_n 0, 1) := by decide +kernel
theorem dX6_on_56 : decode cX6_on 56 = .ok (.getfield 29, 3) := by decide +kernel
theorem dX6_on_59 : decode cX6_on 59 = .ok (.getfield 136, 3) := by decide +kernel
theorem dX6_on_62 : decode cX6_on 62 = .ok (.invokevirtual 198, 3) := by decide +kernel
theorem dX6_on_65 : decode cX6_on 65 = .ok (.ireturn, 1) := by decide +kernel
theorem dX6_worst_0 : decode cX6_worst 0 = .ok (.iload_n 1, 1) := by decide +kernel
theorem dX6_worst_1 : decode cX6_worst 1 = .ok (.iconst 0, 1) := by decide +kernel
theorem dX6_worst_2 : decode cX6_worst 2 = .ok (.iconst 1, 1) := by decide +kernel
theorem dX6_worst_3 : decode cX6_worst 3 = .ok (.invokestatic 80, 3) := by decide +kernel
theorem dX6_worst_6 : decode cX6_worst 6 = .ok (.ifCond .ne 5, 3) := by decide +kernel
theorem dX6_worst_9 : decode cX6_worst 9 = .ok (.iconst (-1), 1) := by decide +kernel
theorem dX6_worst_10 : decode cX6_worst 10 = .ok (.ireturn, 1) := by decide +kernel
theorem dX6_worst_11 : decode cX6_worst 11 = .ok (.aload_n 0, 1) := by decide +kernel
theorem dX6_worst_12 : decode cX6_worst 12 = .ok (.getfield 43, 3) := by decide +kernel
theorem dX6_worst_15 : decode cX6_worst 15 = .ok (.aload_n 0, 1) := by decide +kernel
theorem dX6_worst_16 : decode cX6_worst 16 = .ok (.getfield 19, 3) := by decide +kernel
theorem dX6_worst_19 : decode cX6_worst 19 = .ok (.aload_n 0, 1) := by decide +kernel
theorem dX6_worst_20 : decode cX6_worst 20 = .ok (.getfield 29, 3) := by decide +kernel
theorem dX6_worst_23 : decode cX6_worst 23 = .ok (.invokevirtual 176, 3) := by decide +kernel
theorem dX6_worst_26 : decode cX6_worst 26 = .ok (.aload_n 0, 1) := by decide +kernel
theorem dX6_worst_27 : decode cX6_worst 27 = .ok (.getfield 43, 3) := by decide +kernel
theorem dX6_worst_30 : decode cX6_worst 30 = .ok (.aload_n 0, 1) := by decide +kernel
theorem dX6_worst_31 : decode cX6_worst 31 = .ok (.getfield 29, 3) := by decide +kernel
theorem dX6_worst_34 : decode cX6_worst 34 = .ok (.getfield 133, 3) := by decide +kernel
theorem dX6_worst_37 : decode cX6_worst 37 = .ok (.aload_n 0, 1) := by decide +kernel
theorem dX6_worst_38 : decode cX6_worst 38 = .ok (.getfield 29, 3) := by decide +kernel
theorem dX6_worst_41 : decode cX6_worst 41 = .ok (.getfield 136, 3) := by decide +kernel
theorem dX6_worst_44 : decode cX6_worst 44 = .ok (.invokevirtual 202, 3) := by decide +kernel
theorem dX6_worst_47 : decode cX6_worst 47 = .ok (.bipush (-9), 2) := by decide +kernel
theorem dX6_worst_49 : decode cX6_worst 49 = .ok (.if_icmp .ne 6, 3) := by decide +kernel
theorem dX6_worst_52 : decode cX6_worst 52 = .ok (.bipush (-9), 2) := by decide +kernel
theorem dX6_worst_54 : decode cX6_worst 54 = .ok (.ireturn, 1) := by decide +kernel
theorem dX6_worst_55 : decode cX6_worst 55 = .ok (.aload_n 0, 1) := by decide +kernel
theorem dX6_worst_56 : decode cX6_worst 56 = .ok (.invokevirtual 130, 3) := by decide +kernel
theorem dX6_worst_59 : decode cX6_worst 59 = .ok (.istore_n 2, 1) := by decide +kernel
theorem dX6_worst_60 : decode cX6_worst 60 = .ok (.bipush (-9), 2) := by decide +kernel
theorem dX6_worst_62 : decode cX6_worst 62 = .ok (.istore_n 3, 1) := by decide +kernel
theorem dX6_worst_63 : decode cX6_worst 63 = .ok (.iconst 0, 1) := by decide +kernel
theorem dX6_worst_64 : decode cX6_worst 64 = .ok (.istore 4, 2) := by decide +kernel
theorem dX6_worst_66 : decode cX6_worst 66 = .ok (.iconst 0, 1) := by decide +kernel
theorem dX6_worst_67 : decode cX6_worst 67 = .ok (.istore 5, 2) := by decide +kernel
theorem dX6_worst_69 : decode cX6_worst 69 = .ok (.iload 5, 2) := by decide +kernel
theorem dX6_worst_71 : decode cX6_worst 71 = .ok (.aload_n 0, 1) := by decide +kernel
theorem dX6_worst_72 : decode cX6_worst 72 = .ok (.getfield 19, 3) := by decide +kernel
theorem dX6_worst_75 : decode cX6_worst 75 = .ok (.getfield 205, 3) := by decide +kernel
theorem dX6_worst_78 : decode cX6_worst 78 = .ok (.if_icmp .ge 90, 3) := by decide +kernel
theorem dX6_worst_81 : decode cX6_worst 81 = .ok (.iload 4, 2) := by decide +kernel
theorem dX6_worst_83 : decode cX6_worst 83 = .ok (.bipush (-9), 2) := by decide +kernel
theorem dX6_worst_85 : decode cX6_worst 85 = .ok (.if_icmp .eq 83, 3) := by decide +kernel
theorem dX6_worst_88 : decode cX6_worst 88 = .ok (.iload_n 2, 1) := by decide +kernel
theorem dX6_worst_89 : decode cX6_worst 89 = .ok (.iload 5, 2) := by decide +kernel
theorem dX6_worst_91 : decode cX6_worst 91 = .ok (.invokestatic 208, 3) := by decide +kernel
theorem dX6_worst_94 : decode cX6_worst 94 = .ok (.ifCond .eq 68, 3) := by decide +kernel
theorem dX6_worst_97 : decode cX6_worst 97 = .ok (.aload_n 0, 1) := by decide +kernel
theorem dX6_worst_98 : decode cX6_worst 98 = .ok (.getfield 43, 3) := by decide +kernel
theorem dX6_worst_101 : decode cX6_worst 101 = .ok (.iload_n 2, 1) := by decide +kernel
theorem dX6_worst_102 : decode cX6_worst 102 = .ok (.iconst 1, 1) := by decide +kernel
theorem dX6_worst_103 : decode cX6_worst 103 = .ok (.iload 5, 2) := by decide +kernel
theorem dX6_worst_105 : decode cX6_worst 105 = .ok (.ishl, 1) := by decide +kernel
theorem dX6_worst_106 : decode cX6_worst 106 = .ok (.iconst (-1), 1) := by decide +kernel
theorem dX6_worst_107 : decode cX6_worst 107 = .ok (.ixor, 1) := by decide +kernel
theorem dX6_worst_108 : decode cX6_worst 108 = .ok (.iand, 1) := by decide +kernel
theorem dX6_worst_109 : decode cX6_worst 109 = .ok (.invokevirtual 211, 3) := by decide +kernel
theorem dX6_worst_112 : decode cX6_worst 112 = .ok (.aload_n 0, 1) := by decide +kernel
theorem dX6_worst_113 : decode cX6_worst 113 = .ok (.getfield 43, 3) := by decide +kernel
theorem dX6_worst_116 : decode cX6_worst 116 = .ok (.aload_n 0, 1) := by decide +kernel
theorem dX6_worst_117 : decode cX6_worst 117 = .ok (.getfield 29, 3) := by decide +kernel
theorem dX6_worst_120 : decode cX6_worst 120 = .ok (.getfield 133, 3) := by decide +kernel
theorem dX6_worst_123 : decode cX6_worst 123 = .ok (.aload_n 0, 1) := by decide +kernel
theorem dX6_worst_124 : decode cX6_worst 124 = .ok (.getfield 29, 3) := by decide +kernel
theorem dX6_worst_127 : decode cX6_worst 127 = .ok (.getfield 136, 3) := by decide +kernel
theorem dX6_worst_130 : decode cX6_worst 130 = .ok (.invokevirtual 202, 3) := by decide +kernel
theorem dX6_worst_133 : decode cX6_worst 133 = .ok (.istore 6, 2) := by decide +kernel
theorem dX6_worst_135 : decode cX6_worst 135 = .ok (.iload_n 3, 1) := by decide +kernel
theorem dX6_worst_136 : decode cX6_worst 136 = .ok (.bipush (-9), 2) := by decide +kernel
theorem dX6_worst_138 : decode cX6_worst 138 = .ok (.if_icmp .eq 17, 3) := by decide +kernel
theorem dX6_worst_141 : decode cX6_worst 141 = .ok (.iload 6, 2) := by decide +kernel
theorem dX6_worst_143 : decode cX6_worst 143 = .ok (.bipush (-9), 2) := by decide +kernel
theorem dX6_worst_145 : decode cX6_worst 145 = .ok (.if_icmp .eq 10, 3) := by decide +kernel
theorem dX6_worst_148 : decode cX6_worst 148 = .ok (.iload 6, 2) := by decide +kernel
theorem dX6_worst_150 : decode cX6_worst 150 = .ok (.iload 4, 2) := by decide +kernel
theorem dX6_worst_152 : decode cX6_worst 152 = .ok (.if_icmp .le 10, 3) := by decide +kernel
theorem dX6_worst_155 : decode cX6_worst 155 = .ok (.iload 5, 2) := by decide +kernel
theorem dX6_worst_157 : decode cX6_worst 157 = .ok (.istore_n 3, 1) := by decide +kernel
theorem dX6_worst_158 : decode cX6_worst 158 = .ok (.iload 6, 2) := by decide +kernel
theorem dX6_worst_160 : decode cX6_worst 160 = .ok (.istore 4, 2) := by decide +kernel
theorem dX6_worst_162 : decode cX6_worst 162 = .ok (.iinc 5 1, 3) := by decide +kernel
theorem dX6_worst_165 : decode cX6_worst 165 = .ok (.goto (-96), 3) := by decide +kernel
theorem dX6_worst_168 : decode cX6_worst 168 = .ok (.iload_n 3, 1) := by decide +kernel
theorem dX6_worst_169 : decode cX6_worst 169 = .ok (.bipush (-9), 2) := by decide +kernel
theorem dX6_worst_171 : decode cX6_worst 171 = .ok (.if_icmp .eq 7, 3) := by decide +kernel
theorem dX6_worst_174 : decode cX6_worst 174 = .ok (.iload_n 1, 1) := by decide +kernel
theorem dX6_worst_175 : decode cX6_worst 175 = .ok (.ifCond .ne 5, 3) := by decide +kernel
theorem dX6_worst_178 : decode cX6_worst 178 = .ok (.iload_n 3, 1) := by decide +kernel
theorem dX6_worst_179 : decode cX6_worst 179 = .ok (.ireturn, 1) := by decide +kernel
theorem dX6_worst_180 : decode cX6_worst 180 = .ok (.iload 4, 2) := by decide +kernel
theorem dX6_worst_182 : decode cX6_worst 182 = .ok (.bipush (-9), 2) := by decide +kernel
theorem dX6_worst_184 : decode cX6_worst 184 = .ok (.if_icmp .ne 8, 3) := by decide +kernel
theorem dX6_worst_187 : decode cX6_worst 187 = .ok (.bipush (-5), 2) := by decide +kernel
theorem dX6_worst_189 : decode cX6_worst 189 = .ok (.goto 5, 3) := by decide +kernel
theorem dX6_worst_192 : decode cX6_worst 192 = .ok (.iload 4, 2) := by decide +kernel
theorem dX6_worst_194 : decode cX6_worst 194 = .ok (.ireturn, 1) := by decide +kernel
theorem dX6_plans_0 : decode cX6_plans 0 = .ok (.aload_n 0, 1) := by decide +kernel
theorem dX6_plans_1 : decode cX6_plans 1 = .ok (.getfield 19, 3) := by decide +kernel
theorem dX6_plans_4 : decode cX6_plans 4 = .ok (.iload_n 1, 1) := by decide +kernel
theorem dX6_plans_5 : decode cX6_plans 5 = .ok (.invokevirtual 102, 3) := by decide +kernel
theorem dX6_plans_8 : decode cX6_plans 8 = .ok (.ifCond .ne 5, 3) := by decide +kernel
theorem dX6_plans_11 : decode cX6_plans 11 = .ok (.iconst (-1), 1) := by decide +kernel
theorem dX6_plans_12 : decode cX6_plans 12 = .ok (.ireturn, 1) := by decide +kernel
theorem dX6_plans_13 : decode cX6_plans 13 = .ok (.aload_n 0, 1) := by decide +kernel
theorem dX6_plans_14 : decode cX6_plans 14 = .ok (.getfield 214, 3) := by decide +kernel
theorem dX6_plans_17 : decode cX6_plans 17 = .ok (.bipush 8, 2) := by decide +kernel
theorem dX6_plans_19 : decode cX6_plans 19 = .ok (.if_icmp .lt 6, 3) := by decide +kernel
theorem dX6_plans_22 : decode cX6_plans 22 = .ok (.bipush (-3), 2) := by decide +kernel
theorem dX6_plans_24 : decode cX6_plans 24 = .ok (.ireturn, 1) := by decide +kernel
theorem dX6_plans_25 : decode cX6_plans 25 = .ok (.aload_n 0, 1) := by decide +kernel
theorem dX6_plans_26 : decode cX6_plans 26 = .ok (.getfield 54, 3) := by decide +kernel
theorem dX6_plans_29 : decode cX6_plans 29 = .ok (.aload_n 0, 1) := by decide +kernel
theorem dX6_plans_30 : decode cX6_plans 30 = .ok (.getfield 214, 3) := by decide +kernel
theorem dX6_plans_33 : decode cX6_plans 33 = .ok (.iload_n 1, 1) := by decide +kernel
theorem dX6_plans_34 : decode cX6_plans 34 = .ok (.iastore, 1) := by decide +kernel
theorem dX6_plans_35 : decode cX6_plans 35 = .ok (.aload_n 0, 1) := by decide +kernel
theorem dX6_plans_36 : decode cX6_plans 36 = .ok (.dup, 1) := by decide +kernel
theorem dX6_plans_37 : decode cX6_plans 37 = .ok (.getfield 214, 3) := by decide +kernel
theorem dX6_plans_40 : decode cX6_plans 40 = .ok (.iconst 1, 1) := by decide +kernel
theorem dX6_plans_41 : decode cX6_plans 41 = .ok (.iadd, 1) := by decide +kernel
theorem dX6_plans_42 : decode cX6_plans 42 = .ok (.putfield 214, 3) := by decide +kernel
theorem dX6_plans_45 : decode cX6_plans 45 = .ok (.aload_n 0, 1) := by decide +kernel
theorem dX6_plans_46 : decode cX6_plans 46 = .ok (.getfield 214, 3) := by decide +kernel
theorem dX6_plans_49 : decode cX6_plans 49 = .ok (.ireturn, 1) := by decide +kernel
theorem dX6_drops_0 : decode cX6_drops 0 = .ok (.aload_n 0, 1) := by decide +kernel
theorem dX6_drops_1 : decode cX6_drops 1 = .ok (.getfield 214, 3) := by decide +kernel
theorem dX6_drops_4 : decode cX6_drops 4 = .ok (.istore_n 1, 1) := by decide +kernel
theorem dX6_drops_5 : decode cX6_drops 5 = .ok (.aload_n 0, 1) := by decide +kernel
theorem dX6_drops_6 : decode cX6_drops 6 = .ok (.iconst 0, 1) := by decide +kernel
theorem dX6_drops_7 : decode cX6_drops 7 = .ok (.putfield 214, 3) := by decide +kernel
theorem dX6_drops_10 : decode cX6_drops 10 = .ok (.iload_n 1, 1) := by decide +kernel
theorem dX6_drops_11 : decode cX6_drops 11 = .ok (.ireturn, 1) := by decide +kernel
theorem dX6_his_0 : decode cX6_his 0 = .ok (.iload_n 1, 1) := by decide +kernel
theorem dX6_his_1 : decode cX6_his 1 = .ok (.iconst 0, 1) := by decide +kernel
theorem dX6_his_2 : decode cX6_his 2 = .ok (.iconst 1, 1) := by decide +kernel
theorem dX6_his_3 : decode cX6_his 3 = .ok (.invokestatic 80, 3) := by decide +kernel
theorem dX6_his_6 : decode cX6_his 6 = .ok (.ifCond .ne 5, 3) := by decide +kernel
theorem dX6_his_9 : decode cX6_his 9 = .ok (.iconst (-1), 1) := by decide +kernel
theorem dX6_his_10 : decode cX6_his 10 = .ok (.ireturn, 1) := by decide +kernel
theorem dX6_his_11 : decode cX6_his 11 = .ok (.aload_n 0, 1) := by decide +kernel
theorem dX6_his_12 : decode cX6_his 12 = .ok (.getfield 29, 3) := by decide +kernel
theorem dX6_his_15 : decode cX6_his 15 = .ok (.getfield 133, 3) := by decide +kernel
theorem dX6_his_18 : decode cX6_his 18 = .ok (.istore_n 2, 1) := by decide +kernel
theorem dX6_his_19 : decode cX6_his 19 = .ok (.aload_n 0, 1) := by decide +kernel
theorem dX6_his_20 : decode cX6_his 20 = .ok (.getfield 29, 3) := by decide +kernel
theorem dX6_his_23 : decode cX6_his 23 = .ok (.getfield 136, 3) := by decide +kernel
theorem dX6_his_26 : decode cX6_his 26 = .ok (.istore_n 3, 1) := by decide +kernel
theorem dX6_his_27 : decode cX6_his 27 = .ok (.iconst 0, 1) := by decide +kernel
theorem dX6_his_28 : decode cX6_his 28 = .ok (.istore 4, 2) := by decide +kernel
theorem dX6_his_30 : decode cX6_his 30 = .ok (.iconst 0, 1) := by decide +kernel
theorem dX6_his_31 : decode cX6_his 31 = .ok (.istore 5, 2) := by decide +kernel
theorem dX6_his_33 : decode cX6_his 33 = .ok (.iload 5, 2) := by decide +kernel
theorem dX6_his_35 : decode cX6_his 35 = .ok (.aload_n 0, 1) := by decide +kernel
theorem dX6_his_36 : decode cX6_his 36 = .ok (.getfield 214, 3) := by decide +kernel
theorem dX6_his_39 : decode cX6_his 39 = .ok (.if_icmp .ge 59, 3) := by decide +kernel
theorem dX6_his_42 : decode cX6_his 42 = .ok (.aload_n 0, 1) := by decide +kernel
theorem dX6_his_43 : decode cX6_his 43 = .ok (.aload_n 0, 1) := by decide +kernel
theorem dX6_his_44 : decode cX6_his 44 = .ok (.getfield 54, 3) := by decide +kernel
theorem dX6_his_47 : decode cX6_his 47 = .ok (.iload 5, 2) := by decide +kernel
theorem dX6_his_49 : decode cX6_his 49 = .ok (.iaload, 1) := by decide +kernel
theorem dX6_his_50 : decode cX6_his 50 = .ok (.iload_n 2, 1) := by decide +kernel
theorem dX6_his_51 : decode cX6_his 51 = .ok (.invokevirtual 149, 3) := by decide +kernel
theorem dX6_his_54 : decode cX6_his 54 = .ok (.ifCond .eq 44, 3) := by decide +kernel
theorem dX6_his_57 : decode cX6_his 57 = .ok (.aload_n 0, 1) := by decide +kernel
theorem dX6_his_58 : decode cX6_his 58 = .ok (.getfield 54, 3) := by decide +kernel
theorem dX6_his_61 : decode cX6_his 61 = .ok (.iload 5, 2) := by decide +kernel
theorem dX6_his_63 : decode cX6_his 63 = .ok (.iaload, 1) := by decide +kernel
theorem dX6_his_64 : decode cX6_his 64 = .ok (.istore 6, 2) := by decide +kernel
theorem dX6_his_66 : decode cX6_his 66 = .ok (.iload 4, 2) := by decide +kernel
theorem dX6_his_68 : decode cX6_his 68 = .ok (.aload_n 0, 1) := by decide +kernel
theorem dX6_his_69 : decode cX6_his 69 = .ok (.iload_n 3, 1) := by decide +kernel
theorem dX6_his_70 : decode cX6_his 70 = .ok (.iload 6, 2) := by decide +kernel
theorem dX6_his_72 : decode cX6_his 72 = .ok (.invokevirtual 153, 3) := by decide +kernel
theorem dX6_his_75 : decode cX6_his 75 = .ok (.iadd, 1) := by decide +kernel
theorem dX6_his_76 : decode cX6_his 76 = .ok (.istore 4, 2) := by decide +kernel
theorem dX6_his_78 : decode cX6_his 78 = .ok (.aload_n 0, 1) := by decide +kernel
theorem dX6_his_79 : decode cX6_his 79 = .ok (.getfield 19, 3) := by decide +kernel
theorem dX6_his_82 : decode cX6_his 82 = .ok (.iload 6, 2) := by decide +kernel
theorem dX6_his_84 : decode cX6_his 84 = .ok (.iload_n 2, 1) := by decide +kernel
theorem dX6_his_85 : decode cX6_his 85 = .ok (.invokevirtual 164, 3) := by decide +kernel
theorem dX6_his_88 : decode cX6_his 88 = .ok (.istore_n 2, 1) := by decide +kernel
theorem dX6_his_89 : decode cX6_his 89 = .ok (.iload 6, 2) := by decide +kernel
theorem dX6_his_91 : decode cX6_his 91 = .ok (.istore_n 3, 1) := by decide +kernel
theorem dX6_his_92 : decode cX6_his 92 = .ok (.iinc 5 1, 3) := by decide +kernel
theorem dX6_his_95 : decode cX6_his 95 = .ok (.goto (-62), 3) := by decide +kernel
theorem dX6_his_98 : decode cX6_his 98 = .ok (.iload_n 1, 1) := by decide +kernel
theorem dX6_his_99 : decode cX6_his 99 = .ok (.iconst 1, 1) := by decide +kernel
theorem dX6_his_100 : decode cX6_his 100 = .ok (.if_icmp .ne 6, 3) := by decide +kernel
theorem dX6_his_103 : decode cX6_his 103 = .ok (.iload 5, 2) := by decide +kernel
theorem dX6_his_105 : decode cX6_his 105 = .ok (.ireturn, 1) := by decide +kernel
theorem dX6_his_106 : decode cX6_his 106 = .ok (.aload_n 0, 1) := by decide +kernel
theorem dX6_his_107 : decode cX6_his 107 = .ok (.getfield 43, 3) := by decide +kernel
theorem dX6_his_110 : decode cX6_his 110 = .ok (.aload_n 0, 1) := by decide +kernel
theorem dX6_his_111 : decode cX6_his 111 = .ok (.getfield 19, 3) := by decide +kernel
theorem dX6_his_114 : decode cX6_his 114 = .ok (.aload_n 0, 1) := by decide +kernel
theorem dX6_his_115 : decode cX6_his 115 = .ok (.getfield 29, 3) := by decide +kernel
theorem dX6_his_118 : decode cX6_his 118 = .ok (.invokevirtual 176, 3) := by decide +kernel
theorem dX6_his_121 : decode cX6_his 121 = .ok (.aload_n 0, 1) := by decide +kernel
theorem dX6_his_122 : decode cX6_his 122 = .ok (.getfield 43, 3) := by decide +kernel
theorem dX6_his_125 : decode cX6_his 125 = .ok (.iload_n 2, 1) := by decide +kernel
theorem dX6_his_126 : decode cX6_his 126 = .ok (.iload_n 3, 1) := by decide +kernel
theorem dX6_his_127 : decode cX6_his 127 = .ok (.invokevirtual 202, 3) := by decide +kernel
theorem dX6_his_130 : decode cX6_his 130 = .ok (.istore 6, 2) := by decide +kernel
theorem dX6_his_132 : decode cX6_his 132 = .ok (.iload 6, 2) := by decide +kernel
theorem dX6_his_134 : decode cX6_his 134 = .ok (.bipush (-9), 2) := by decide +kernel
theorem dX6_his_136 : decode cX6_his 136 = .ok (.if_icmp .ne 8, 3) := by decide +kernel
theorem dX6_his_139 : decode cX6_his 139 = .ok (.bipush (-9), 2) := by decide +kernel
theorem dX6_his_141 : decode cX6_his 141 = .ok (.goto 8, 3) := by decide +kernel
theorem dX6_his_144 : decode cX6_his 144 = .ok (.iload 4, 2) := by decide +kernel
theorem dX6_his_146 : decode cX6_his 146 = .ok (.iload 6, 2) := by decide +kernel
theorem dX6_his_148 : decode cX6_his 148 = .ok (.iadd, 1) := by decide +kernel
theorem dX6_his_149 : decode cX6_his 149 = .ok (.ireturn, 1) := by decide +kernel
theorem dX6_cars_0 : decode cX6_cars 0 = .ok (.iload_n 1, 1) := by decide +kernel
theorem dX6_cars_1 : decode cX6_cars 1 = .ok (.iconst 0, 1) := by decide +kernel
theorem dX6_cars_2 : decode cX6_cars 2 = .ok (.bipush 20, 2) := by decide +kernel
theorem dX6_cars_4 : decode cX6_cars 4 = .ok (.invokestatic 80, 3) := by decide +kernel
theorem dX6_cars_7 : decode cX6_cars 7 = .ok (.ifCond .eq 12, 3) := by decide +kernel
theorem dX6_cars_10 : decode cX6_cars 10 = .ok (.iload_n 2, 1) := by decide +kernel
theorem dX6_cars_11 : decode cX6_cars 11 = .ok (.iconst 0, 1) := by decide +kernel
theorem dX6_cars_12 : decode cX6_cars 12 = .ok (.iconst 1, 1) := by decide +kernel
theorem dX6_cars_13 : decode cX6_cars 13 = .ok (.invokestatic 80, 3) := by decide +kernel
theorem dX6_cars_16 : decode cX6_cars 16 = .ok (.ifCond .ne 5, 3) := by decide +kernel
theorem dX6_cars_19 : decode cX6_cars 19 = .ok (.iconst (-1), 1) := by decide +kernel
theorem dX6_cars_20 : decode cX6_cars 20 = .ok (.ireturn, 1) := by decide +kernel
theorem dX6_cars_21 : decode cX6_cars 21 = .ok (.aload_n 0, 1) := by decide +kernel
theorem dX6_cars_22 : decode cX6_cars 22 = .ok (.getfield 43, 3) := by decide +kernel
theorem dX6_cars_25 : decode cX6_cars 25 = .ok (.aload_n 0, 1) := by decide +kernel
theorem dX6_cars_26 : decode cX6_cars 26 = .ok (.getfield 19, 3) := by decide +kernel
theorem dX6_cars_29 : decode cX6_cars 29 = .ok (.aload_n 0, 1) := by decide +kernel
theorem dX6_cars_30 : decode cX6_cars 30 = .ok (.getfield 29, 3) := by decide +kernel
theorem dX6_cars_33 : decode cX6_cars 33 = .ok (.invokevirtual 176, 3) := by decide +kernel
theorem dX6_cars_36 : decode cX6_cars 36 = .ok (.aload_n 0, 1) := by decide +kernel
theorem dX6_cars_37 : decode cX6_cars 37 = .ok (.getfield 43, 3) := by decide +kernel
theorem dX6_cars_40 : decode cX6_cars 40 = .ok (.aload_n 0, 1) := by decide +kernel
theorem dX6_cars_41 : decode cX6_cars 41 = .ok (.getfield 19, 3) := by decide +kernel
theorem dX6_cars_44 : decode cX6_cars 44 = .ok (.getfield 72, 3) := by decide +kernel
theorem dX6_cars_47 : decode cX6_cars 47 = .ok (.bipush (-9), 2) := by decide +kernel
theorem dX6_cars_49 : decode cX6_cars 49 = .ok (.invokevirtual 180, 3) := by decide +kernel
theorem dX6_cars_52 : decode cX6_cars 52 = .ok (.istore_n 3, 1) := by decide +kernel
theorem dX6_cars_53 : decode cX6_cars 53 = .ok (.iload_n 3, 1) := by decide +kernel
theorem dX6_cars_54 : decode cX6_cars 54 = .ok (.bipush (-9), 2) := by decide +kernel
theorem dX6_cars_56 : decode cX6_cars 56 = .ok (.if_icmp .ne 6, 3) := by decide +kernel
theorem dX6_cars_59 : decode cX6_cars 59 = .ok (.bipush (-9), 2) := by decide +kernel
theorem dX6_cars_61 : decode cX6_cars 61 = .ok (.ireturn, 1) := by decide +kernel
theorem dX6_cars_62 : decode cX6_cars 62 = .ok (.iload_n 2, 1) := by decide +kernel
theorem dX6_cars_63 : decode cX6_cars 63 = .ok (.ifCond .ne 12, 3) := by decide +kernel
theorem dX6_cars_66 : decode cX6_cars 66 = .ok (.aload_n 0, 1) := by decide +kernel
theorem dX6_cars_67 : decode cX6_cars 67 = .ok (.iload_n 1, 1) := by decide +kernel
theorem dX6_cars_68 : decode cX6_cars 68 = .ok (.iload_n 3, 1) := by decide +kernel
theorem dX6_cars_69 : decode cX6_cars 69 = .ok (.invokevirtual 217, 3) := by decide +kernel
theorem dX6_cars_72 : decode cX6_cars 72 = .ok (.goto 9, 3) := by decide +kernel
theorem dX6_cars_75 : decode cX6_cars 75 = .ok (.aload_n 0, 1) := by decide +kernel
theorem dX6_cars_76 : decode cX6_cars 76 = .ok (.iload_n 1, 1) := by decide +kernel
theorem dX6_cars_77 : decode cX6_cars 77 = .ok (.iload_n 3, 1) := by decide +kernel
theorem dX6_cars_78 : decode cX6_cars 78 = .ok (.invokevirtual 220, 3) := by decide +kernel
theorem dX6_cars_81 : decode cX6_cars 81 = .ok (.ireturn, 1) := by decide +kernel
theorem dX6_tunnel_0 : decode cX6_tunnel 0 = .ok (.iload_n 1, 1) := by decide +kernel
theorem dX6_tunnel_1 : decode cX6_tunnel 1 = .ok (.iconst 0, 1) := by decide +kernel
theorem dX6_tunnel_2 : decode cX6_tunnel 2 = .ok (.bipush 8, 2) := by decide +kernel
theorem dX6_tunnel_4 : decode cX6_tunnel 4 = .ok (.invokestatic 80, 3) := by decide +kernel
theorem dX6_tunnel_7 : decode cX6_tunnel 7 = .ok (.ifCond .ne 5, 3) := by decide +kernel
theorem dX6_tunnel_10 : decode cX6_tunnel 10 = .ok (.iconst (-1), 1) := by decide +kernel
theorem dX6_tunnel_11 : decode cX6_tunnel 11 = .ok (.ireturn, 1) := by decide +kernel
theorem dX6_tunnel_12 : decode cX6_tunnel 12 = .ok (.iconst 1, 1) := by decide +kernel
theorem dX6_tunnel_13 : decode cX6_tunnel 13 = .ok (.aload_n 0, 1) := by decide +kernel
theorem dX6_tunnel_14 : decode cX6_tunnel 14 = .ok (.getfield 29, 3) := by decide +kernel
theorem dX6_tunnel_17 : decode cX6_tunnel 17 = .ok (.getfield 133, 3) := by decide +kernel
theorem dX6_tunnel_20 : decode cX6_tunnel 20 = .ok (.ishl, 1) := by decide +kernel
theorem dX6_tunnel_21 : decode cX6_tunnel 21 = .ok (.istore_n 2, 1) := by decide +kernel
theorem dX6_tunnel_22 : decode cX6_tunnel 22 = .ok (.iconst 1, 1) := by decide +kernel
theorem dX6_tunnel_23 : decode cX6_tunnel 23 = .ok (.istore_n 3, 1) := by decide +kernel
theorem dX6_tunnel_24 : decode cX6_tunnel 24 = .ok (.iload_n 3, 1) := by decide +kernel
theorem dX6_tunnel_25 : decode cX6_tunnel 25 = .ok (.iload_n 1, 1) := by decide +kernel
theorem dX6_tunnel_26 : decode cX6_tunnel 26 = .ok (.if_icmp .gt 15, 3) := by decide +kernel
theorem dX6_tunnel_29 : decode cX6_tunnel 29 = .ok (.aload_n 0, 1) := by decide +kernel
theorem dX6_tunnel_30 : decode cX6_tunnel 30 = .ok (.iload_n 2, 1) := by decide +kernel
theorem dX6_tunnel_31 : decode cX6_tunnel 31 = .ok (.invokevirtual 223, 3) := by decide +kernel
theorem dX6_tunnel_34 : decode cX6_tunnel 34 = .ok (.istore_n 2, 1) := by decide +kernel
theorem dX6_tunnel_35 : decode cX6_tunnel 35 = .ok (.iinc 3 1, 3) := by decide +kernel
theorem dX6_tunnel_38 : decode cX6_tunnel 38 = .ok (.goto (-14), 3) := by decide +kernel
theorem dX6_tunnel_41 : decode cX6_tunnel 41 = .ok (.iload_n 2, 1) := by decide +kernel
theorem dX6_tunnel_42 : decode cX6_tunnel 42 = .ok (.ireturn, 1) := by decide +kernel
theorem dX6_saw_0 : decode cX6_saw 0 = .ok (.iload_n 1, 1) := by decide +kernel
theorem dX6_saw_1 : decode cX6_saw 1 = .ok (.iconst 0, 1) := by decide +kernel
theorem dX6_saw_2 : decode cX6_saw 2 = .ok (.bipush 8, 2) := by decide +kernel
theorem dX6_saw_4 : decode cX6_saw 4 = .ok (.invokestatic 80, 3) := by decide +kernel
theorem dX6_saw_7 : decode cX6_saw 7 = .ok (.ifCond .eq 14, 3) := by decide +kernel
theorem dX6_saw_10 : decode cX6_saw 10 = .ok (.aload_n 0, 1) := by decide +kernel
theorem dX6_saw_11 : decode cX6_saw 11 = .ok (.getfield 19, 3) := by decide +kernel
theorem dX6_saw_14 : decode cX6_saw 14 = .ok (.iload_n 2, 1) := by decide +kernel
theorem dX6_saw_15 : decode cX6_saw 15 = .ok (.invokevirtual 124, 3) := by decide +kernel
theorem dX6_saw_18 : decode cX6_saw 18 = .ok (.ifCond .ne 5, 3) := by decide +kernel
theorem dX6_saw_21 : decode cX6_saw 21 = .ok (.iconst (-1), 1) := by decide +kernel
theorem dX6_saw_22 : decode cX6_saw 22 = .ok (.ireturn, 1) := by decide +kernel
theorem dX6_saw_23 : decode cX6_saw 23 = .ok (.aload_n 0, 1) := by decide +kernel
theorem dX6_saw_24 : decode cX6_saw 24 = .ok (.getfield 226, 3) := by decide +kernel
theorem dX6_saw_27 : decode cX6_saw 27 = .ok (.iconst 5, 1) := by decide +kernel
theorem dX6_saw_28 : decode cX6_saw 28 = .ok (.if_icmp .lt 6, 3) := by decide +kernel
theorem dX6_saw_31 : decode cX6_saw 31 = .ok (.bipush (-3), 2) := by decide +kernel
theorem dX6_saw_33 : decode cX6_saw 33 = .ok (.ireturn, 1) := by decide +kernel
theorem dX6_saw_34 : decode cX6_saw 34 = .ok (.aload_n 0, 1) := by decide +kernel
theorem dX6_saw_35 : decode cX6_saw 35 = .ok (.getfield 58, 3) := by decide +kernel
theorem dX6_saw_38 : decode cX6_saw 38 = .ok (.aload_n 0, 1) := by decide +kernel
theorem dX6_saw_39 : decode cX6_saw 39 = .ok (.getfield 226, 3) := by decide +kernel
theorem dX6_saw_42 : decode cX6_saw 42 = .ok (.iload_n 1, 1) := by decide +kernel
theorem dX6_saw_43 : decode cX6_saw 43 = .ok (.iastore, 1) := by decide +kernel
theorem dX6_saw_44 : decode cX6_saw 44 = .ok (.aload_n 0, 1) := by decide +kernel
theorem dX6_saw_45 : decode cX6_saw 45 = .ok (.getfield 61, 3) := by decide +kernel
theorem dX6_saw_48 : decode cX6_saw 48 = .ok (.aload_n 0, 1) := by decide +kernel
theorem dX6_saw_49 : decode cX6_saw 49 = .ok (.getfield 226, 3) := by decide +kernel
theorem dX6_saw_52 : decode cX6_saw 52 = .ok (.iload_n 2, 1) := by decide +kernel
theorem dX6_saw_53 : decode cX6_saw 53 = .ok (.iastore, 1) := by decide +kernel
theorem dX6_saw_54 : decode cX6_saw 54 = .ok (.aload_n 0, 1) := by decide +kernel
theorem dX6_saw_55 : decode cX6_saw 55 = .ok (.dup, 1) := by decide +kernel
theorem dX6_saw_56 : decode cX6_saw 56 = .ok (.getfield 226, 3) := by decide +kernel
theorem dX6_saw_59 : decode cX6_saw 59 = .ok (.iconst 1, 1) := by decide +kernel
theorem dX6_saw_60 : decode cX6_saw 60 = .ok (.iadd, 1) := by decide +kernel
theorem dX6_saw_61 : decode cX6_saw 61 = .ok (.putfield 226, 3) := by decide +kernel
theorem dX6_saw_64 : decode cX6_saw 64 = .ok (.aload_n 0, 1) := by decide +kernel
theorem dX6_saw_65 : decode cX6_saw 65 = .ok (.getfield 226, 3) := by decide +kernel
theorem dX6_saw_68 : decode cX6_saw 68 = .ok (.ireturn, 1) := by decide +kernel
theorem dX6_forget_0 : decode cX6_forget 0 = .ok (.aload_n 0, 1) := by decide +kernel
theorem dX6_forget_1 : decode cX6_forget 1 = .ok (.getfield 226, 3) := by decide +kernel
theorem dX6_forget_4 : decode cX6_forget 4 = .ok (.istore_n 1, 1) := by decide +kernel
theorem dX6_forget_5 : decode cX6_forget 5 = .ok (.aload_n 0, 1) := by decide +kernel
theorem dX6_forget_6 : decode cX6_forget 6 = .ok (.iconst 0, 1) := by decide +kernel
theorem dX6_forget_7 : decode cX6_forget 7 = .ok (.putfield 226, 3) := by decide +kernel
theorem dX6_forget_10 : decode cX6_forget 10 = .ok (.iload_n 1, 1) := by decide +kernel
theorem dX6_forget_11 : decode cX6_forget 11 = .ok (.ireturn, 1) := by decide +kernel
theorem dX6_where_0 : decode cX6_where 0 = .ok (.iload_n 1, 1) := by decide +kernel
theorem dX6_where_1 : decode cX6_where 1 = .ok (.iconst 0, 1) := by decide +kernel
theorem dX6_where_2 : decode cX6_where 2 = .ok (.bipush 8, 2) := by decide +kernel
theorem dX6_where_4 : decode cX6_where 4 = .ok (.invokestatic 80, 3) := by decide +kernel
theorem dX6_where_7 : decode cX6_where 7 = .ok (.ifCond .ne 5, 3) := by decide +kernel
theorem dX6_where_10 : decode cX6_where 10 = .ok (.iconst (-1), 1) := by decide +kernel
theorem dX6_where_11 : decode cX6_where 11 = .ok (.ireturn, 1) := by decide +kernel
theorem dX6_where_12 : decode cX6_where 12 = .ok (.aload_n 0, 1) := by decide +kernel
theorem dX6_where_13 : decode cX6_where 13 = .ok (.iconst 1, 1) := by decide +kernel
theorem dX6_where_14 : decode cX6_where 14 = .ok (.aload_n 0, 1) := by decide +kernel
theorem dX6_where_15 : decode cX6_where 15 = .ok (.getfield 29, 3) := by decide +kernel
theorem dX6_where_18 : decode cX6_where 18 = .ok (.getfield 133, 3) := by decide +kernel
theorem dX6_where_21 : decode cX6_where 21 = .ok (.ishl, 1) := by decide +kernel
theorem dX6_where_22 : decode cX6_where 22 = .ok (.iconst 0, 1) := by decide +kernel
theorem dX6_where_23 : decode cX6_where 23 = .ok (.invokevirtual 229, 3) := by decide +kernel
theorem dX6_where_26 : decode cX6_where 26 = .ok (.istore_n 2, 1) := by decide +kernel
theorem dX6_where_27 : decode cX6_where 27 = .ok (.iconst 1, 1) := by decide +kernel
theorem dX6_where_28 : decode cX6_where 28 = .ok (.istore_n 3, 1) := by decide +kernel
theorem dX6_where_29 : decode cX6_where 29 = .ok (.iload_n 3, 1) := by decide +kernel
theorem dX6_where_30 : decode cX6_where 30 = .ok (.iload_n 1, 1) := by decide +kernel
theorem dX6_where_31 : decode cX6_where 31 = .ok (.if_icmp .gt 20, 3) := by decide +kernel
theorem dX6_where_34 : decode cX6_where 34 = .ok (.aload_n 0, 1) := by decide +kernel
theorem dX6_where_35 : decode cX6_where 35 = .ok (.aload_n 0, 1) := by decide +kernel
theorem dX6_where_36 : decode cX6_where 36 = .ok (.iload_n 2, 1) := by decide +kernel
theorem dX6_where_37 : decode cX6_where 37 = .ok (.invokevirtual 223, 3) := by decide +kernel
theorem dX6_where_40 : decode cX6_where 40 = .ok (.iload_n 3, 1) := by decide +kernel
theorem dX6_where_41 : decode cX6_where 41 = .ok (.invokevirtual 229, 3) := by decide +kernel
theorem dX6_where_44 : decode cX6_where 44 = .ok (.istore_n 2, 1) := by decide +kernel
theorem dX6_where_45 : decode cX6_where 45 = .ok (.iinc 3 1, 3) := by decide +kernel
theorem dX6_where_48 : decode cX6_where 48 = .ok (.goto (-19), 3) := by decide +kernel
theorem dX6_where_51 : decode cX6_where 51 = .ok (.iload_n 2, 1) := by decide +kernel
theorem dX6_where_52 : decode cX6_where 52 = .ok (.ireturn, 1) := by decide +kernel
theorem dX6_which_0 : decode cX6_which 0 = .ok (.iload_n 1, 1) := by decide +kernel
theorem dX6_which_1 : decode cX6_which 1 = .ok (.iconst 0, 1) := by decide +kernel
theorem dX6_which_2 : decode cX6_which 2 = .ok (.bipush 60, 2) := by decide +kernel
theorem dX6_which_4 : decode cX6_which 4 = .ok (.invokestatic 80, 3) := by decide +kernel
theorem dX6_which_7 : decode cX6_which 7 = .ok (.ifCond .eq 14, 3) := by decide +kernel
theorem dX6_which_10 : decode cX6_which 10 = .ok (.iload_n 2, 1) := by decide +kernel
theorem dX6_which_11 : decode cX6_which 11 = .ok (.iconst 0, 1) := by decide +kernel
theorem dX6_which_12 : decode cX6_which 12 = .ok (.sipush 999, 3) := by decide +kernel
theorem dX6_which_15 : decode cX6_which 15 = .ok (.invokestatic 80, 3) := by decide +kernel
theorem dX6_which_18 : decode cX6_which 18 = .ok (.ifCond .ne 5, 3) := by decide +kernel
theorem dX6_which_21 : decode cX6_which 21 = .ok (.iconst (-1), 1) := by decide +kernel
theorem dX6_which_22 : decode cX6_which 22 = .ok (.ireturn, 1) := by decide +kernel
theorem dX6_which_23 : decode cX6_which 23 = .ok (.aload_n 0, 1) := by decide +kernel
theorem dX6_which_24 : decode cX6_which 24 = .ok (.getfield 43, 3) := by decide +kernel
theorem dX6_which_27 : decode cX6_which 27 = .ok (.aload_n 0, 1) := by decide +kernel
theorem dX6_which_28 : decode cX6_which 28 = .ok (.getfield 19, 3) := by decide +kernel
theorem dX6_which_31 : decode cX6_which 31 = .ok (.aload_n 0, 1) := by decide +kernel
theorem dX6_which_32 : decode cX6_which 32 = .ok (.getfield 29, 3) := by decide +kernel
theorem dX6_which_35 : decode cX6_which 35 = .ok (.invokevirtual 176, 3) := by decide +kernel
theorem dX6_which_38 : decode cX6_which 38 = .ok (.iconst 0, 1) := by decide +kernel
theorem dX6_which_39 : decode cX6_which 39 = .ok (.istore_n 3, 1) := by decide +kernel
theorem dX6_which_40 : decode cX6_which 40 = .ok (.iconst 0, 1) := by decide +kernel
theorem dX6_which_41 : decode cX6_which 41 = .ok (.istore 4, 2) := by decide +kernel
theorem dX6_which_43 : decode cX6_which 43 = .ok (.iload 4, 2) := by decide +kernel
theorem dX6_which_45 : decode cX6_which 45 = .ok (.aload_n 0, 1) := by decide +kernel
theorem dX6_which_46 : decode cX6_which 46 = .ok (.getfield 19, 3) := by decide +kernel
theorem dX6_which_49 : decode cX6_which 49 = .ok (.getfield 205, 3) := by decide +kernel
theorem dX6_which_52 : decode cX6_which 52 = .ok (.if_icmp .ge 37, 3) := by decide +kernel
theorem dX6_which_55 : decode cX6_which 55 = .ok (.aload_n 0, 1) := by decide +kernel
theorem dX6_which_56 : decode cX6_which 56 = .ok (.getfield 43, 3) := by decide +kernel
theorem dX6_which_59 : decode cX6_which 59 = .ok (.iload 4, 2) := by decide +kernel
theorem dX6_which_61 : decode cX6_which 61 = .ok (.iload_n 1, 1) := by decide +kernel
theorem dX6_which_62 : decode cX6_which 62 = .ok (.aload_n 0, 1) := by decide +kernel
theorem dX6_which_63 : decode cX6_which 63 = .ok (.getfield 19, 3) := by decide +kernel
theorem dX6_which_66 : decode cX6_which 66 = .ok (.getfield 72, 3) := by decide +kernel
theorem dX6_which_69 : decode cX6_which 69 = .ok (.invokevirtual 232, 3) := by decide +kernel
theorem dX6_which_72 : decode cX6_which 72 = .ok (.iload_n 2, 1) := by decide +kernel
theorem dX6_which_73 : decode cX6_which 73 = .ok (.if_icmp .ne 10, 3) := by decide +kernel
theorem dX6_which_76 : decode cX6_which 76 = .ok (.iload_n 3, 1) := by decide +kernel
theorem dX6_which_77 : decode cX6_which 77 = .ok (.iconst 1, 1) := by decide +kernel
theorem dX6_which_78 : decode cX6_which 78 = .ok (.iload 4, 2) := by decide +kernel
theorem dX6_which_80 : decode cX6_which 80 = .ok (.ishl, 1) := by decide +kernel
theorem dX6_which_81 : decode cX6_which 81 = .ok (.ior, 1) := by decide +kernel
theorem dX6_which_82 : decode cX6_which 82 = .ok (.istore_n 3, 1) := by decide +kernel
theorem dX6_which_83 : decode cX6_which 83 = .ok (.iinc 4 1, 3) := by decide +kernel
theorem dX6_which_86 : decode cX6_which 86 = .ok (.goto (-43), 3) := by decide +kernel
theorem dX6_which_89 : decode cX6_which 89 = .ok (.iload_n 3, 1) := by decide +kernel
theorem dX6_which_90 : decode cX6_which 90 = .ok (.ireturn, 1) := by decide +kernel
theorem dX6_odds_0 : decode cX6_odds 0 = .ok (.aload_n 0, 1) := by decide +kernel
theorem dX6_odds_1 : decode cX6_odds 1 = .ok (.getfield 19, 3) := by decide +kernel
theorem dX6_odds_4 : decode cX6_odds 4 = .ok (.iload_n 1, 1) := by decide +kernel
theorem dX6_odds_5 : decode cX6_odds 5 = .ok (.invokevirtual 124, 3) := by decide +kernel
theorem dX6_odds_8 : decode cX6_odds 8 = .ok (.ifCond .eq 21, 3) := by decide +kernel
theorem dX6_odds_11 : decode cX6_odds 11 = .ok (.iload_n 2, 1) := by decide +kernel
theorem dX6_odds_12 : decode cX6_odds 12 = .ok (.iconst 0, 1) := by decide +kernel
theorem dX6_odds_13 : decode cX6_odds 13 = .ok (.iconst 4, 1) := by decide +kernel
theorem dX6_odds_14 : decode cX6_odds 14 = .ok (.invokestatic 80, 3) := by decide +kernel
theorem dX6_odds_17 : decode cX6_odds 17 = .ok (.ifCond .eq 12, 3) := by decide +kernel
theorem dX6_odds_20 : decode cX6_odds 20 = .ok (.iload_n 3, 1) := by decide +kernel
theorem dX6_odds_21 : decode cX6_odds 21 = .ok (.iconst 0, 1) := by decide +kernel
theorem dX6_odds_22 : decode cX6_odds 22 = .ok (.iconst 1, 1) := by decide +kernel
theorem dX6_odds_23 : decode cX6_odds 23 = .ok (.invokestatic 80, 3) := by decide +kernel
theorem dX6_odds_26 : decode cX6_odds 26 = .ok (.ifCond .ne 7, 3) := by decide +kernel
theorem dX6_odds_29 : decode cX6_odds 29 = .ok (.ldc2_w 235, 3) := by decide +kernel
theorem dX6_odds_32 : decode cX6_odds 32 = .ok (.lreturn, 1) := by decide +kernel
theorem dX6_odds_33 : decode cX6_odds 33 = .ok (.aload_n 0, 1) := by decide +kernel
theorem dX6_odds_34 : decode cX6_odds 34 = .ok (.getfield 50, 3) := by decide +kernel
theorem dX6_odds_37 : decode cX6_odds 37 = .ok (.aload_n 0, 1) := by decide +kernel
theorem dX6_odds_38 : decode cX6_odds 38 = .ok (.getfield 19, 3) := by decide +kernel
theorem dX6_odds_41 : decode cX6_odds 41 = .ok (.aload_n 0, 1) := by decide +kernel
theorem dX6_odds_42 : decode cX6_odds 42 = .ok (.invokevirtual 130, 3) := by decide +kernel
theorem dX6_odds_45 : decode cX6_odds 45 = .ok (.aload_n 0, 1) := by decide +kernel
theorem dX6_odds_46 : decode cX6_odds 46 = .ok (.getfield 29, 3) := by decide +kernel
theorem dX6_odds_49 : decode cX6_odds 49 = .ok (.getfield 133, 3) := by decide +kernel
theorem dX6_odds_52 : decode cX6_odds 52 = .ok (.iload_n 2, 1) := by decide +kernel
theorem dX6_odds_53 : decode cX6_odds 53 = .ok (.invokevirtual 237, 3) := by decide +kernel
theorem dX6_odds_56 : decode cX6_odds 56 = .ok (.iload_n 3, 1) := by decide +kernel
theorem dX6_odds_57 : decode cX6_odds 57 = .ok (.ifCond .ne 14, 3) := by decide +kernel
theorem dX6_odds_60 : decode cX6_odds 60 = .ok (.aload_n 0, 1) := by decide +kernel
theorem dX6_odds_61 : decode cX6_odds 61 = .ok (.getfield 50, 3) := by decide +kernel
theorem dX6_odds_64 : decode cX6_odds 64 = .ok (.iload_n 1, 1) := by decide +kernel
theorem dX6_odds_65 : decode cX6_odds 65 = .ok (.invokevirtual 241, 3) := by decide +kernel
theorem dX6_odds_68 : decode cX6_odds 68 = .ok (.goto 11, 3) := by decide +kernel
theorem dX6_odds_71 : decode cX6_odds 71 = .ok (.aload_n 0, 1) := by decide +kernel
theorem dX6_odds_72 : decode cX6_odds 72 = .ok (.getfield 50, 3) := by decide +kernel
theorem dX6_odds_75 : decode cX6_odds 75 = .ok (.iload_n 1, 1) := by decide +kernel
theorem dX6_odds_76 : decode cX6_odds 76 = .ok (.invokevirtual 245, 3) := by decide +kernel
theorem dX6_odds_79 : decode cX6_odds 79 = .ok (.lreturn, 1) := by decide +kernel
theorem dX6_rate_0 : decode cX6_rate 0 = .ok (.iload_n 1, 1) := by decide +kernel
theorem dX6_rate_1 : decode cX6_rate 1 = .ok (.iconst 0, 1) := by decide +kernel
theorem dX6_rate_2 : decode cX6_rate 2 = .ok (.iconst 5, 1) := by decide +kernel
theorem dX6_rate_3 : decode cX6_rate 3 = .ok (.invokestatic 80, 3) := by decide +kernel
theorem dX6_rate_6 : decode cX6_rate 6 = .ok (.ifCond .eq 14, 3) := by decide +kernel
theorem dX6_rate_9 : decode cX6_rate 9 = .ok (.aload_n 0, 1) := by decide +kernel
theorem dX6_rate_10 : decode cX6_rate 10 = .ok (.getfield 19, 3) := by decide +kernel
theorem dX6_rate_13 : decode cX6_rate 13 = .ok (.iload_n 2, 1) := by decide +kernel
theorem dX6_rate_14 : decode cX6_rate 14 = .ok (.invokevirtual 102, 3) := by decide +kernel
theorem dX6_rate_17 : decode cX6_rate 17 = .ok (.ifCond .ne 6, 3) := by decide +kernel
theorem dX6_rate_20 : decode cX6_rate 20 = .ok (.ldc 248, 2) := by decide +kernel
theorem dX6_rate_22 : decode cX6_rate 22 = .ok (.ireturn, 1) := by decide +kernel
theorem dX6_rate_23 : decode cX6_rate 23 = .ok (.aload_n 0, 1) := by decide +kernel
theorem dX6_rate_24 : decode cX6_rate 24 = .ok (.iload_n 1, 1) := by decide +kernel
theorem dX6_rate_25 : decode cX6_rate 25 = .ok (.iload_n 2, 1) := by decide +kernel
theorem dX6_rate_26 : decode cX6_rate 26 = .ok (.invokevirtual 249, 3) := by decide +kernel
theorem dX6_rate_29 : decode cX6_rate 29 = .ok (.ireturn, 1) := by decide +kernel
theorem dX6_keep_0 : decode cX6_keep 0 = .ok (.iload_n 1, 1) := by decide +kernel
theorem dX6_keep_1 : decode cX6_keep 1 = .ok (.iconst 0, 1) := by decide +kernel
theorem dX6_keep_2 : decode cX6_keep 2 = .ok (.iconst 1, 1) := by decide +kernel
theorem dX6_keep_3 : decode cX6_keep 3 = .ok (.invokestatic 80, 3) := by decide +kernel
theorem dX6_keep_6 : decode cX6_keep 6 = .ok (.ifCond .ne 5, 3) := by decide +kernel
theorem dX6_keep_9 : decode cX6_keep 9 = .ok (.iconst (-1), 1) := by decide +kernel
theorem dX6_keep_10 : decode cX6_keep 10 = .ok (.ireturn, 1) := by decide +kernel
theorem dX6_keep_11 : decode cX6_keep 11 = .ok (.aload_n 0, 1) := by decide +kernel
theorem dX6_keep_12 : decode cX6_keep 12 = .ok (.getfield 64, 3) := by decide +kernel
theorem dX6_keep_15 : decode cX6_keep 15 = .ok (.iload_n 1, 1) := by decide +kernel
theorem dX6_keep_16 : decode cX6_keep 16 = .ok (.aaload, 1) := by decide +kernel
theorem dX6_keep_17 : decode cX6_keep 17 = .ok (.aload_n 0, 1) := by decide +kernel
theorem dX6_keep_18 : decode cX6_keep 18 = .ok (.getfield 29, 3) := by decide +kernel
theorem dX6_keep_21 : decode cX6_keep 21 = .ok (.invokevirtual 252, 3) := by decide +kernel
theorem dX6_keep_24 : decode cX6_keep 24 = .ok (.aload_n 0, 1) := by decide +kernel
theorem dX6_keep_25 : decode cX6_keep 25 = .ok (.getfield 68, 3) := by decide +kernel
theorem dX6_keep_28 : decode cX6_keep 28 = .ok (.iload_n 1, 1) := by decide +kernel
theorem dX6_keep_29 : decode cX6_keep 29 = .ok (.iconst 1, 1) := by decide +kernel
theorem dX6_keep_30 : decode cX6_keep 30 = .ok (.bastore, 1) := by decide +kernel
theorem dX6_keep_31 : decode cX6_keep 31 = .ok (.aload_n 0, 1) := by decide +kernel
theorem dX6_keep_32 : decode cX6_keep 32 = .ok (.getfield 29, 3) := by decide +kernel
theorem dX6_keep_35 : decode cX6_keep 35 = .ok (.getfield 139, 3) := by decide +kernel
theorem dX6_keep_38 : decode cX6_keep 38 = .ok (.ireturn, 1) := by decide +kernel
theorem dX6_back_0 : decode cX6_back 0 = .ok (.iload_n 1, 1) := by decide +kernel
theorem dX6_back_1 : decode cX6_back 1 = .ok (.iconst 0, 1) := by decide +kernel
theorem dX6_back_2 : decode cX6_back 2 = .ok (.iconst 1, 1) := by decide +kernel
theorem dX6_back_3 : decode cX6_back 3 = .ok (.invokestatic 80, 3) := by decide +kernel
theorem dX6_back_6 : decode cX6_back 6 = .ok (.ifCond .ne 5, 3) := by decide +kernel
theorem dX6_back_9 : decode cX6_back 9 = .ok (.iconst (-1), 1) := by decide +kernel
theorem dX6_back_10 : decode cX6_back 10 = .ok (.ireturn, 1) := by decide +kernel
theorem dX6_back_11 : decode cX6_back 11 = .ok (.aload_n 0, 1) := by decide +kernel
theorem dX6_back_12 : decode cX6_back 12 = .ok (.getfield 68, 3) := by decide +kernel
theorem dX6_back_15 : decode cX6_back 15 = .ok (.iload_n 1, 1) := by decide +kernel
theorem dX6_back_16 : decode cX6_back 16 = .ok (.baload, 1) := by decide +kernel
theorem dX6_back_17 : decode cX6_back 17 = .ok (.ifCond .ne 6, 3) := by decide +kernel
theorem dX6_back_20 : decode cX6_back 20 = .ok (.bipush (-2), 2) := by decide +kernel
theorem dX6_back_22 : decode cX6_back 22 = .ok (.ireturn, 1) := by decide +kernel
theorem dX6_back_23 : decode cX6_back 23 = .ok (.aload_n 0, 1) := by decide +kernel
theorem dX6_back_24 : decode cX6_back 24 = .ok (.getfield 29, 3) := by decide +kernel
theorem dX6_back_27 : decode cX6_back 27 = .ok (.aload_n 0, 1) := by decide +kernel
theorem dX6_back_28 : decode cX6_back 28 = .ok (.getfield 64, 3) := by decide +kernel
theorem dX6_back_31 : decode cX6_back 31 = .ok (.iload_n 1, 1) := by decide +kernel
theorem dX6_back_32 : decode cX6_back 32 = .ok (.aaload, 1) := by decide +kernel
theorem dX6_back_33 : decode cX6_back 33 = .ok (.invokevirtual 252, 3) := by decide +kernel
theorem dX6_back_36 : decode cX6_back 36 = .ok (.aload_n 0, 1) := by decide +kernel
theorem dX6_back_37 : decode cX6_back 37 = .ok (.getfield 36, 3) := by decide +kernel
theorem dX6_back_40 : decode cX6_back 40 = .ok (.invokevirtual 255, 3) := by decide +kernel
theorem dX6_back_43 : decode cX6_back 43 = .ok (.aload_n 0, 1) := by decide +kernel
theorem dX6_back_44 : decode cX6_back 44 = .ok (.getfield 29, 3) := by decide +kernel
theorem dX6_back_47 : decode cX6_back 47 = .ok (.getfield 139, 3) := by decide +kernel
theorem dX6_back_50 : decode cX6_back 50 = .ok (.ireturn, 1) := by decide +kernel
theorem dX6_count_0 : decode cX6_count 0 = .ok (.iload_n 1, 1) := by decide +kernel
theorem dX6_count_1 : decode cX6_count 1 = .ok (.tableswitch 117 0 8 #[51, 59, 67, 75, 83, 91, 99, 104, 109], 51) := by decide +kernel
theorem dX6_count_52 : decode cX6_count 52 = .ok (.aload_n 0, 1) := by decide +kernel
theorem dX6_count_53 : decode cX6_count 53 = .ok (.getfield 19, 3) := by decide +kernel
theorem dX6_count_56 : decode cX6_count 56 = .ok (.getfield 258, 3) := by decide +kernel
theorem dX6_count_59 : decode cX6_count 59 = .ok (.ireturn, 1) := by decide +kernel
theorem dX6_count_60 : decode cX6_count 60 = .ok (.aload_n 0, 1) := by decide +kernel
theorem dX6_count_61 : decode cX6_count 61 = .ok (.getfield 19, 3) := by decide +kernel
theorem dX6_count_64 : decode cX6_count 64 = .ok (.getfield 205, 3) := by decide +kernel
theorem dX6_count_67 : decode cX6_count 67 = .ok (.ireturn, 1) := by decide +kernel
theorem dX6_count_68 : decode cX6_count 68 = .ok (.aload_n 0, 1) := by decide +kernel
theorem dX6_count_69 : decode cX6_count 69 = .ok (.getfield 19, 3) := by decide +kernel
theorem dX6_count_72 : decode cX6_count 72 = .ok (.getfield 72, 3) := by decide +kernel
theorem dX6_count_75 : decode cX6_count 75 = .ok (.ireturn, 1) := by decide +kernel
theorem dX6_count_76 : decode cX6_count 76 = .ok (.aload_n 0, 1) := by decide +kernel
theorem dX6_count_77 : decode cX6_count 77 = .ok (.getfield 19, 3) := by decide +kernel
theorem dX6_count_80 : decode cX6_count 80 = .ok (.getfield 192, 3) := by decide +kernel
theorem dX6_count_83 : decode cX6_count 83 = .ok (.ireturn, 1) := by decide +kernel
theorem dX6_count_84 : decode cX6_count 84 = .ok (.aload_n 0, 1) := by decide +kernel
theorem dX6_count_85 : decode cX6_count 85 = .ok (.getfield 19, 3) := by decide +kernel
theorem dX6_count_88 : decode cX6_count 88 = .ok (.getfield 261, 3) := by decide +kernel
theorem dX6_count_91 : decode cX6_count 91 = .ok (.ireturn, 1) := by decide +kernel
theorem dX6_count_92 : decode cX6_count 92 = .ok (.aload_n 0, 1) := by decide +kernel
theorem dX6_count_93 : decode cX6_count 93 = .ok (.getfield 19, 3) := by decide +kernel
theorem dX6_count_96 : decode cX6_count 96 = .ok (.getfield 264, 3) := by decide +kernel
theorem dX6_count_99 : decode cX6_count 99 = .ok (.ireturn, 1) := by decide +kernel
theorem dX6_count_100 : decode cX6_count 100 = .ok (.aload_n 0, 1) := by decide +kernel
theorem dX6_count_101 : decode cX6_count 101 = .ok (.getfield 214, 3) := by decide +kernel
theorem dX6_count_104 : decode cX6_count 104 = .ok (.ireturn, 1) := by decide +kernel
theorem dX6_count_105 : decode cX6_count 105 = .ok (.aload_n 0, 1) := by decide +kernel
theorem dX6_count_106 : decode cX6_count 106 = .ok (.getfield 226, 3) := by decide +kernel
theorem dX6_count_109 : decode cX6_count 109 = .ok (.ireturn, 1) := by decide +kernel
theorem dX6_count_110 : decode cX6_count 110 = .ok (.aload_n 0, 1) := by decide +kernel
theorem dX6_count_111 : decode cX6_count 111 = .ok (.getfield 10, 3) := by decide +kernel
theorem dX6_count_114 : decode cX6_count 114 = .ok (.invokevirtual 88, 3) := by decide +kernel
theorem dX6_count_117 : decode cX6_count 117 = .ok (.ireturn, 1) := by decide +kernel
theorem dX6_count_118 : decode cX6_count 118 = .ok (.iconst (-1), 1) := by decide +kernel
theorem dX6_count_119 : decode cX6_count 119 = .ok (.ireturn, 1) := by decide +kernel
theorem dX6_trace_0 : decode cX6_trace 0 = .ok (.aload_n 0, 1) := by decide +kernel
theorem dX6_trace_1 : decode cX6_trace 1 = .ok (.getfield 267, 3) := by decide +kernel
theorem dX6_trace_4 : decode cX6_trace 4 = .ok (.lreturn, 1) := by decide +kernel
theorem dX6_isWithin_0 : decode cX6_isWithin 0 = .ok (.iload_n 0, 1) := by decide +kernel
theorem dX6_isWithin_1 : decode cX6_isWithin 1 = .ok (.iload_n 1, 1) := by decide +kernel
theorem dX6_isWithin_2 : decode cX6_isWithin 2 = .ok (.if_icmp .lt 12, 3) := by decide +kernel
theorem dX6_isWithin_5 : decode cX6_isWithin 5 = .ok (.iload_n 0, 1) := by decide +kernel
theorem dX6_isWithin_6 : decode cX6_isWithin 6 = .ok (.iload_n 2, 1) := by decide +kernel
theorem dX6_isWithin_7 : decode cX6_isWithin 7 = .ok (.if_icmp .gt 7, 3) := by decide +kernel
theorem dX6_isWithin_10 : decode cX6_isWithin 10 = .ok (.iconst 1, 1) := by decide +kernel
theorem dX6_isWithin_11 : decode cX6_isWithin 11 = .ok (.goto 4, 3) := by decide +kernel
theorem dX6_isWithin_14 : decode cX6_isWithin 14 = .ok (.iconst 0, 1) := by decide +kernel
theorem dX6_isWithin_15 : decode cX6_isWithin 15 = .ok (.ireturn, 1) := by decide +kernel
theorem dX6_has_0 : decode cX6_has 0 = .ok (.iload_n 0, 1) := by decide +kernel
theorem dX6_has_1 : decode cX6_has 1 = .ok (.iload_n 1, 1) := by decide +kernel
theorem dX6_has_2 : decode cX6_has 2 = .ok (.ishr, 1) := by decide +kernel
theorem dX6_has_3 : decode cX6_has 3 = .ok (.iconst 1, 1) := by decide +kernel
theorem dX6_has_4 : decode cX6_has 4 = .ok (.iand, 1) := by decide +kernel
theorem dX6_has_5 : decode cX6_has 5 = .ok (.ifCond .eq 7, 3) := by decide +kernel
theorem dX6_has_8 : decode cX6_has 8 = .ok (.iconst 1, 1) := by decide +kernel
theorem dX6_has_9 : decode cX6_has 9 = .ok (.goto 4, 3) := by decide +kernel
theorem dX6_has_12 : decode cX6_has 12 = .ok (.iconst 0, 1) := by decide +kernel
theorem dX6_has_13 : decode cX6_has 13 = .ok (.ireturn, 1) := by decide +kernel
theorem dX6_beginAnew_0 : decode cX6_beginAnew 0 = .ok (.aload_n 0, 1) := by decide +kernel
theorem dX6_beginAnew_1 : decode cX6_beginAnew 1 = .ok (.getfield 29, 3) := by decide +kernel
theorem dX6_beginAnew_4 : decode cX6_beginAnew 4 = .ok (.aload_n 0, 1) := by decide +kernel
theorem dX6_beginAnew_5 : decode cX6_beginAnew 5 = .ok (.getfield 19, 3) := by decide +kernel
theorem dX6_beginAnew_8 : decode cX6_beginAnew 8 = .ok (.getfield 72, 3) := by decide +kernel
theorem dX6_beginAnew_11 : decode cX6_beginAnew 11 = .ok (.invokevirtual 76, 3) := by decide +kernel
theorem dX6_beginAnew_14 : decode cX6_beginAnew 14 = .ok (.aload_n 0, 1) := by decide +kernel
theorem dX6_beginAnew_15 : decode cX6_beginAnew 15 = .ok (.getfield 36, 3) := by decide +kernel
theorem dX6_beginAnew_18 : decode cX6_beginAnew 18 = .ok (.invokevirtual 255, 3) := by decide +kernel
theorem dX6_beginAnew_21 : decode cX6_beginAnew 21 = .ok (.aload_n 0, 1) := by decide +kernel
theorem dX6_beginAnew_22 : decode cX6_beginAnew 22 = .ok (.iconst 0, 1) := by decide +kernel
theorem dX6_beginAnew_23 : decode cX6_beginAnew 23 = .ok (.putfield 214, 3) := by decide +kernel
theorem dX6_beginAnew_26 : decode cX6_beginAnew 26 = .ok (.aload_n 0, 1) := by decide +kernel
theorem dX6_beginAnew_27 : decode cX6_beginAnew 27 = .ok (.iconst 0, 1) := by decide +kernel
theorem dX6_beginAnew_28 : decode cX6_beginAnew 28 = .ok (.putfield 226, 3) := by decide +kernel
theorem dX6_beginAnew_31 : decode cX6_beginAnew 31 = .ok (.iconst 0, 1) := by decide +kernel
theorem dX6_beginAnew_32 : decode cX6_beginAnew 32 = .ok (.istore_n 1, 1) := by decide +kernel
theorem dX6_beginAnew_33 : decode cX6_beginAnew 33 = .ok (.iload_n 1, 1) := by decide +kernel
theorem dX6_beginAnew_34 : decode cX6_beginAnew 34 = .ok (.iconst 2, 1) := by decide +kernel
theorem dX6_beginAnew_35 : decode cX6_beginAnew 35 = .ok (.if_icmp .ge 16, 3) := by decide +kernel
theorem dX6_beginAnew_38 : decode cX6_beginAnew 38 = .ok (.aload_n 0, 1) := by decide +kernel
theorem dX6_beginAnew_39 : decode cX6_beginAnew 39 = .ok (.getfield 68, 3) := by decide +kernel
theorem dX6_beginAnew_42 : decode cX6_beginAnew 42 = .ok (.iload_n 1, 1) := by decide +kernel
theorem dX6_beginAnew_43 : decode cX6_beginAnew 43 = .ok (.iconst 0, 1) := by decide +kernel
theorem dX6_beginAnew_44 : decode cX6_beginAnew 44 = .ok (.bastore, 1) := by decide +kernel
theorem dX6_beginAnew_45 : decode cX6_beginAnew 45 = .ok (.iinc 1 1, 3) := by decide +kernel
theorem dX6_beginAnew_48 : decode cX6_beginAnew 48 = .ok (.goto (-15), 3) := by decide +kernel
theorem dX6_beginAnew_51 : decode cX6_beginAnew 51 = .ok (.return_, 1) := by decide +kernel
theorem dX6_longOf_0 : decode cX6_longOf 0 = .ok (.aload_n 0, 1) := by decide +kernel
theorem dX6_longOf_1 : decode cX6_longOf 1 = .ok (.getfield 19, 3) := by decide +kernel
theorem dX6_longOf_4 : decode cX6_longOf 4 = .ok (.getfield 271, 3) := by decide +kernel
theorem dX6_longOf_7 : decode cX6_longOf 7 = .ok (.iload_n 1, 1) := by decide +kernel
theorem dX6_longOf_8 : decode cX6_longOf 8 = .ok (.iaload, 1) := by decide +kernel
theorem dX6_longOf_9 : decode cX6_longOf 9 = .ok (.aload_n 0, 1) := by decide +kernel
theorem dX6_longOf_10 : decode cX6_longOf 10 = .ok (.getfield 29, 3) := by decide +kernel
theorem dX6_longOf_13 : decode cX6_longOf 13 = .ok (.getfield 115, 3) := by decide +kernel
theorem dX6_longOf_16 : decode cX6_longOf 16 = .ok (.iload_n 1, 1) := by decide +kernel
theorem dX6_longOf_17 : decode cX6_longOf 17 = .ok (.iaload, 1) := by decide +kernel
theorem dX6_longOf_18 : decode cX6_longOf 18 = .ok (.iadd, 1) := by decide +kernel
theorem dX6_longOf_19 : decode cX6_longOf 19 = .ok (.ireturn, 1) := by decide +kernel
theorem dX6_openRoads_0 : decode cX6_openRoads 0 = .ok (.aload_n 0, 1) := by decide +kernel
theorem dX6_openRoads_1 : decode cX6_openRoads 1 = .ok (.getfield 19, 3) := by decide +kernel
theorem dX6_openRoads_4 : decode cX6_openRoads 4 = .ok (.invokevirtual 273, 3) := by decide +kernel
theorem dX6_openRoads_7 : decode cX6_openRoads 7 = .ok (.aload_n 0, 1) := by decide +kernel
theorem dX6_openRoads_8 : decode cX6_openRoads 8 = .ok (.getfield 29, 3) := by decide +kernel
theorem dX6_openRoads_11 : decode cX6_openRoads 11 = .ok (.getfield 145, 3) := by decide +kernel
theorem dX6_openRoads_14 : decode cX6_openRoads 14 = .ok (.iconst (-1), 1) := by decide +kernel
theorem dX6_openRoads_15 : decode cX6_openRoads 15 = .ok (.ixor, 1) := by decide +kernel
theorem dX6_openRoads_16 : decode cX6_openRoads 16 = .ok (.iand, 1) := by decide +kernel
theorem dX6_openRoads_17 : decode cX6_openRoads 17 = .ok (.ireturn, 1) := by decide +kernel
theorem dX6_canTake_0 : decode cX6_canTake 0 = .ok (.aload_n 0, 1) := by decide +kernel
theorem dX6_canTake_1 : decode cX6_canTake 1 = .ok (.getfield 29, 3) := by decide +kernel
theorem dX6_canTake_4 : decode cX6_canTake 4 = .ok (.iload_n 1, 1) := by decide +kernel
theorem dX6_canTake_5 : decode cX6_canTake 5 = .ok (.invokevirtual 118, 3) := by decide +kernel
theorem dX6_canTake_8 : decode cX6_canTake 8 = .ok (.ifCond .ne 19, 3) := by decide +kernel
theorem dX6_canTake_11 : decode cX6_canTake 11 = .ok (.aload_n 0, 1) := by decide +kernel
theorem dX6_canTake_12 : decode cX6_canTake 12 = .ok (.getfield 19, 3) := by decide +kernel
theorem dX6_canTake_15 : decode cX6_canTake 15 = .ok (.iload_n 1, 1) := by decide +kernel
theorem dX6_canTake_16 : decode cX6_canTake 16 = .ok (.iload_n 2, 1) := by decide +kernel
theorem dX6_canTake_17 : decode cX6_canTake 17 = .ok (.invokevirtual 276, 3) := by decide +kernel
theorem dX6_canTake_20 : decode cX6_canTake 20 = .ok (.ifCond .eq 7, 3) := by decide +kernel
theorem dX6_canTake_23 : decode cX6_canTake 23 = .ok (.iconst 1, 1) := by decide +kernel
theorem dX6_canTake_24 : decode cX6_canTake 24 = .ok (.goto 4, 3) := by decide +kernel
theorem dX6_canTake_27 : decode cX6_canTake 27 = .ok (.iconst 0, 1) := by decide +kernel
theorem dX6_canTake_28 : decode cX6_canTake 28 = .ok (.ireturn, 1) := by decide +kernel
theorem dX6_minutesOfTaking_0 : decode cX6_minutesOfTaking 0 = .ok (.aload_n 0, 1) := by decide +kernel
theorem dX6_minutesOfTaking_1 : decode cX6_minutesOfTaking 1 = .ok (.iload_n 2, 1) := by decide +kernel
theorem dX6_minutesOfTaking_2 : decode cX6_minutesOfTaking 2 = .ok (.invokevirtual 111, 3) := by decide +kernel
theorem dX6_minutesOfTaking_5 : decode cX6_minutesOfTaking 5 = .ok (.aload_n 0, 1) := by decide +kernel
theorem dX6_minutesOfTaking_6 : decode cX6_minutesOfTaking 6 = .ok (.getfield 19, 3) := by decide +kernel
theorem dX6_minutesOfTaking_9 : decode cX6_minutesOfTaking 9 = .ok (.iload_n 1, 1) := by decide +kernel
theorem dX6_minutesOfTaking_10 : decode cX6_minutesOfTaking 10 = .ok (.iload_n 2, 1) := by decide +kernel
theorem dX6_minutesOfTaking_11 : decode cX6_minutesOfTaking 11 = .ok (.invokevirtual 279, 3) := by decide +kernel
theorem dX6_minutesOfTaking_14 : decode cX6_minutesOfTaking 14 = .ok (.iadd, 1) := by decide +kernel
theorem dX6_minutesOfTaking_15 : decode cX6_minutesOfTaking 15 = .ok (.ireturn, 1) := by decide +kernel
theorem dX6_minutesOneByOne_0 : decode cX6_minutesOneByOne 0 = .ok (.iload_n 1, 1) := by decide +kernel
theorem dX6_minutesOneByOne_1 : decode cX6_minutesOneByOne 1 = .ok (.ifCond .ne 7, 3) := by decide +kernel
theorem dX6_minutesOneByOne_4 : decode cX6_minutesOneByOne 4 = .ok (.iconst 0, 1) := by decide +kernel
theorem dX6_minutesOneByOne_5 : decode cX6_minutesOneByOne 5 = .ok (.goto 4, 3) := by decide +kernel
theorem dX6_minutesOneByOne_8 : decode cX6_minutesOneByOne 8 = .ok (.iload_n 2, 1) := by decide +kernel
theorem dX6_minutesOneByOne_9 : decode cX6_minutesOneByOne 9 = .ok (.istore_n 3, 1) := by decide +kernel
theorem dX6_minutesOneByOne_10 : decode cX6_minutesOneByOne 10 = .ok (.iconst 1, 1) := by decide +kernel
theorem dX6_minutesOneByOne_11 : decode cX6_minutesOneByOne 11 = .ok (.istore 4, 2) := by decide +kernel
theorem dX6_minutesOneByOne_13 : decode cX6_minutesOneByOne 13 = .ok (.iload 4, 2) := by decide +kernel
theorem dX6_minutesOneByOne_15 : decode cX6_minutesOneByOne 15 = .ok (.iload_n 1, 1) := by decide +kernel
theorem dX6_minutesOneByOne_16 : decode cX6_minutesOneByOne 16 = .ok (.if_icmp .ge 42, 3) := by decide +kernel
theorem dX6_minutesOneByOne_19 : decode cX6_minutesOneByOne 19 = .ok (.aload_n 0, 1) := by decide +kernel
theorem dX6_minutesOneByOne_20 : decode cX6_minutesOneByOne 20 = .ok (.getfield 43, 3) := by decide +kernel
theorem dX6_minutesOneByOne_23 : decode cX6_minutesOneByOne 23 = .ok (.aload_n 0, 1) := by decide +kernel
theorem dX6_minutesOneByOne_24 : decode cX6_minutesOneByOne 24 = .ok (.getfield 19, 3) := by decide +kernel
theorem dX6_minutesOneByOne_27 : decode cX6_minutesOneByOne 27 = .ok (.getfield 264, 3) := by decide +kernel
theorem dX6_minutesOneByOne_30 : decode cX6_minutesOneByOne 30 = .ok (.invokevirtual 282, 3) := by decide +kernel
theorem dX6_minutesOneByOne_33 : decode cX6_minutesOneByOne 33 = .ok (.iload_n 3, 1) := by decide +kernel
theorem dX6_minutesOneByOne_34 : decode cX6_minutesOneByOne 34 = .ok (.aload_n 0, 1) := by decide +kernel
theorem dX6_minutesOneByOne_35 : decode cX6_minutesOneByOne 35 = .ok (.getfield 43, 3) := by decide +kernel
theorem dX6_minutesOneByOne_38 : decode cX6_minutesOneByOne 38 = .ok (.aload_n 0, 1) := by decide +kernel
theorem dX6_minutesOneByOne_39 : decode cX6_minutesOneByOne 39 = .ok (.getfield 19, 3) := by decide +kernel
theorem dX6_minutesOneByOne_42 : decode cX6_minutesOneByOne 42 = .ok (.getfield 72, 3) := by decide +kernel
theorem dX6_minutesOneByOne_45 : decode cX6_minutesOneByOne 45 = .ok (.bipush (-9), 2) := by decide +kernel
theorem dX6_minutesOneByOne_47 : decode cX6_minutesOneByOne 47 = .ok (.invokevirtual 180, 3) := by decide +kernel
theorem dX6_minutesOneByOne_50 : decode cX6_minutesOneByOne 50 = .ok (.iadd, 1) := by decide +kernel
theorem dX6_minutesOneByOne_51 : decode cX6_minutesOneByOne 51 = .ok (.istore_n 3, 1) := by decide +kernel
theorem dX6_minutesOneByOne_52 : decode cX6_minutesOneByOne 52 = .ok (.iinc 4 1, 3) := by decide +kernel
theorem dX6_minutesOneByOne_55 : decode cX6_minutesOneByOne 55 = .ok (.goto (-42), 3) := by decide +kernel
theorem dX6_minutesOneByOne_58 : decode cX6_minutesOneByOne 58 = .ok (.iload_n 3, 1) := by decide +kernel
theorem dX6_minutesOneByOne_59 : decode cX6_minutesOneByOne 59 = .ok (.ireturn, 1) := by decide +kernel
theorem dX6_minutesAlike_0 : decode cX6_minutesAlike 0 = .ok (.iload_n 2, 1) := by decide +kernel
theorem dX6_minutesAlike_1 : decode cX6_minutesAlike 1 = .ok (.aload_n 0, 1) := by decide +kernel
theorem dX6_minutesAlike_2 : decode cX6_minutesAlike 2 = .ok (.getfield 19, 3) := by decide +kernel
theorem dX6_minutesAlike_5 : decode cX6_minutesAlike 5 = .ok (.getfield 264, 3) := by decide +kernel
theorem dX6_minutesAlike_8 : decode cX6_minutesAlike 8 = .ok (.iload_n 1, 1) := by decide +kernel
theorem dX6_minutesAlike_9 : decode cX6_minutesAlike 9 = .ok (.iconst 1, 1) := by decide +kernel
theorem dX6_minutesAlike_10 : decode cX6_minutesAlike 10 = .ok (.isub, 1) := by decide +kernel
theorem dX6_minutesAlike_11 : decode cX6_minutesAlike 11 = .ok (.imul, 1) := by decide +kernel
theorem dX6_minutesAlike_12 : decode cX6_minutesAlike 12 = .ok (.aload_n 0, 1) := by decide +kernel
theorem dX6_minutesAlike_13 : decode cX6_minutesAlike 13 = .ok (.getfield 43, 3) := by decide +kernel
theorem dX6_minutesAlike_16 : decode cX6_minutesAlike 16 = .ok (.invokevirtual 285, 3) := by decide +kernel
theorem dX6_minutesAlike_19 : decode cX6_minutesAlike 19 = .ok (.imul, 1) := by decide +kernel
theorem dX6_minutesAlike_20 : decode cX6_minutesAlike 20 = .ok (.iadd, 1) := by decide +kernel
theorem dX6_minutesAlike_21 : decode cX6_minutesAlike 21 = .ok (.istore_n 3, 1) := by decide +kernel
theorem dX6_minutesAlike_22 : decode cX6_minutesAlike 22 = .ok (.iload_n 1, 1) := by decide +kernel
theorem dX6_minutesAlike_23 : decode cX6_minutesAlike 23 = .ok (.iload_n 3, 1) := by decide +kernel
theorem dX6_minutesAlike_24 : decode cX6_minutesAlike 24 = .ok (.imul, 1) := by decide +kernel
theorem dX6_minutesAlike_25 : decode cX6_minutesAlike 25 = .ok (.ireturn, 1) := by decide +kernel
theorem dX6_oneRoadOn_0 : decode cX6_oneRoadOn 0 = .ok (.aload_n 0, 1) := by decide +kernel
theorem dX6_oneRoadOn_1 : decode cX6_oneRoadOn 1 = .ok (.invokevirtual 130, 3) := by decide +kernel
theorem dX6_oneRoadOn_4 : decode cX6_oneRoadOn 4 = .ok (.istore_n 2, 1) := by decide +kernel
theorem dX6_oneRoadOn_5 : decode cX6_oneRoadOn 5 = .ok (.iconst 0, 1) := by decide +kernel
theorem dX6_oneRoadOn_6 : decode cX6_oneRoadOn 6 = .ok (.istore_n 3, 1) := by decide +kernel
theorem dX6_oneRoadOn_7 : decode cX6_oneRoadOn 7 = .ok (.iconst 0, 1) := by decide +kernel
theorem dX6_oneRoadOn_8 : decode cX6_oneRoadOn 8 = .ok (.istore 4, 2) := by decide +kernel
theorem dX6_oneRoadOn_10 : decode cX6_oneRoadOn 10 = .ok (.iload 4, 2) := by decide +kernel
theorem dX6_oneRoadOn_12 : decode cX6_oneRoadOn 12 = .ok (.aload_n 0, 1) := by decide +kernel
theorem dX6_oneRoadOn_13 : decode cX6_oneRoadOn 13 = .ok (.getfield 19, 3) := by decide +kernel
theorem dX6_oneRoadOn_16 : decode cX6_oneRoadOn 16 = .ok (.getfield 205, 3) := by decide +kernel
theorem dX6_oneRoadOn_19 : decode cX6_oneRoadOn 19 = .ok (.if_icmp .ge 82, 3) := by decide +kernel
theorem dX6_oneRoadOn_22 : decode cX6_oneRoadOn 22 = .ok (.iload_n 2, 1) := by decide +kernel
theorem dX6_oneRoadOn_23 : decode cX6_oneRoadOn 23 = .ok (.iload 4, 2) := by decide +kernel
theorem dX6_oneRoadOn_25 : decode cX6_oneRoadOn 25 = .ok (.invokestatic 208, 3) := by decide +kernel
theorem dX6_oneRoadOn_28 : decode cX6_oneRoadOn 28 = .ok (.ifCond .eq 67, 3) := by decide +kernel
theorem dX6_oneRoadOn_31 : decode cX6_oneRoadOn 31 = .ok (.iload_n 1, 1) := by decide +kernel
theorem dX6_oneRoadOn_32 : decode cX6_oneRoadOn 32 = .ok (.aload_n 0, 1) := by decide +kernel
theorem dX6_oneRoadOn_33 : decode cX6_oneRoadOn 33 = .ok (.getfield 19, 3) := by decide +kernel
theorem dX6_oneRoadOn_36 : decode cX6_oneRoadOn 36 = .ok (.getfield 105, 3) := by decide +kernel
theorem dX6_oneRoadOn_39 : decode cX6_oneRoadOn 39 = .ok (.iload 4, 2) := by decide +kernel
theorem dX6_oneRoadOn_41 : decode cX6_oneRoadOn 41 = .ok (.iaload, 1) := by decide +kernel
theorem dX6_oneRoadOn_42 : decode cX6_oneRoadOn 42 = .ok (.invokestatic 208, 3) := by decide +kernel
theorem dX6_oneRoadOn_45 : decode cX6_oneRoadOn 45 = .ok (.ifCond .eq 18, 3) := by decide +kernel
theorem dX6_oneRoadOn_48 : decode cX6_oneRoadOn 48 = .ok (.iload_n 3, 1) := by decide +kernel
theorem dX6_oneRoadOn_49 : decode cX6_oneRoadOn 49 = .ok (.iconst 1, 1) := by decide +kernel
theorem dX6_oneRoadOn_50 : decode cX6_oneRoadOn 50 = .ok (.aload_n 0, 1) := by decide +kernel
theorem dX6_oneRoadOn_51 : decode cX6_oneRoadOn 51 = .ok (.getfield 19, 3) := by decide +kernel
theorem dX6_oneRoadOn_54 : decode cX6_oneRoadOn 54 = .ok (.getfield 108, 3) := by decide +kernel
theorem dX6_oneRoadOn_57 : decode cX6_oneRoadOn 57 = .ok (.iload 4, 2) := by decide +kernel
theorem dX6_oneRoadOn_59 : decode cX6_oneRoadOn 59 = .ok (.iaload, 1) := by decide +kernel
theorem dX6_oneRoadOn_60 : decode cX6_oneRoadOn 60 = .ok (.ishl, 1) := by decide +kernel
theorem dX6_oneRoadOn_61 : decode cX6_oneRoadOn 61 = .ok (.ior, 1) := by decide +kernel
theorem dX6_oneRoadOn_62 : decode cX6_oneRoadOn 62 = .ok (.istore_n 3, 1) := by decide +kernel
theorem dX6_oneRoadOn_63 : decode cX6_oneRoadOn 63 = .ok (.iload_n 1, 1) := by decide +kernel
theorem dX6_oneRoadOn_64 : decode cX6_oneRoadOn 64 = .ok (.aload_n 0, 1) := by decide +kernel
theorem dX6_oneRoadOn_65 : decode cX6_oneRoadOn 65 = .ok (.getfield 19, 3) := by decide +kernel
theorem dX6_oneRoadOn_68 : decode cX6_oneRoadOn 68 = .ok (.getfield 108, 3) := by decide +kernel
theorem dX6_oneRoadOn_71 : decode cX6_oneRoadOn 71 = .ok (.iload 4, 2) := by decide +kernel
theorem dX6_oneRoadOn_73 : decode cX6_oneRoadOn 73 = .ok (.iaload, 1) := by decide +kernel
theorem dX6_oneRoadOn_74 : decode cX6_oneRoadOn 74 = .ok (.invokestatic 208, 3) := by decide +kernel
theorem dX6_oneRoadOn_77 : decode cX6_oneRoadOn 77 = .ok (.ifCond .eq 18, 3) := by decide +kernel
theorem dX6_oneRoadOn_80 : decode cX6_oneRoadOn 80 = .ok (.iload_n 3, 1) := by decide +kernel
theorem dX6_oneRoadOn_81 : decode cX6_oneRoadOn 81 = .ok (.iconst 1, 1) := by decide +kernel
theorem dX6_oneRoadOn_82 : decode cX6_oneRoadOn 82 = .ok (.aload_n 0, 1) := by decide +kernel
theorem dX6_oneRoadOn_83 : decode cX6_oneRoadOn 83 = .ok (.getfield 19, 3) := by decide +kernel
theorem dX6_oneRoadOn_86 : decode cX6_oneRoadOn 86 = .ok (.getfield 105, 3) := by decide +kernel
theorem dX6_oneRoadOn_89 : decode cX6_oneRoadOn 89 = .ok (.iload 4, 2) := by decide +kernel
theorem dX6_oneRoadOn_91 : decode cX6_oneRoadOn 91 = .ok (.iaload, 1) := by decide +kernel
theorem dX6_oneRoadOn_92 : decode cX6_oneRoadOn 92 = .ok (.ishl, 1) := by decide +kernel
theorem dX6_oneRoadOn_93 : decode cX6_oneRoadOn 93 = .ok (.ior, 1) := by decide +kernel
theorem dX6_oneRoadOn_94 : decode cX6_oneRoadOn 94 = .ok (.istore_n 3, 1) := by decide +kernel
theorem dX6_oneRoadOn_95 : decode cX6_oneRoadOn 95 = .ok (.iinc 4 1, 3) := by decide +kernel
theorem dX6_oneRoadOn_98 : decode cX6_oneRoadOn 98 = .ok (.goto (-88), 3) := by decide +kernel
theorem dX6_oneRoadOn_101 : decode cX6_oneRoadOn 101 = .ok (.iload_n 3, 1) := by decide +kernel
theorem dX6_oneRoadOn_102 : decode cX6_oneRoadOn 102 = .ok (.ireturn, 1) := by decide +kernel
theorem dX6_asSeen_0 : decode cX6_asSeen 0 = .ok (.iload_n 1, 1) := by decide +kernel
theorem dX6_asSeen_1 : decode cX6_asSeen 1 = .ok (.istore_n 3, 1) := by decide +kernel
theorem dX6_asSeen_2 : decode cX6_asSeen 2 = .ok (.iconst 0, 1) := by decide +kernel
theorem dX6_asSeen_3 : decode cX6_asSeen 3 = .ok (.istore 4, 2) := by decide +kernel
theorem dX6_asSeen_5 : decode cX6_asSeen 5 = .ok (.iload 4, 2) := by decide +kernel
theorem dX6_asSeen_7 : decode cX6_asSeen 7 = .ok (.aload_n 0, 1) := by decide +kernel
theorem dX6_asSeen_8 : decode cX6_asSeen 8 = .ok (.getfield 226, 3) := by decide +kernel
theorem dX6_asSeen_11 : decode cX6_asSeen 11 = .ok (.if_icmp .ge 32, 3) := by decide +kernel
theorem dX6_asSeen_14 : decode cX6_asSeen 14 = .ok (.aload_n 0, 1) := by decide +kernel
theorem dX6_asSeen_15 : decode cX6_asSeen 15 = .ok (.getfield 58, 3) := by decide +kernel
theorem dX6_asSeen_18 : decode cX6_asSeen 18 = .ok (.iload 4, 2) := by decide +kernel
theorem dX6_asSeen_20 : decode cX6_asSeen 20 = .ok (.iaload, 1) := by decide +kernel
theorem dX6_asSeen_21 : decode cX6_asSeen 21 = .ok (.iload_n 2, 1) := by decide +kernel
theorem dX6_asSeen_22 : decode cX6_asSeen 22 = .ok (.if_icmp .ne 15, 3) := by decide +kernel
theorem dX6_asSeen_25 : decode cX6_asSeen 25 = .ok (.iload_n 3, 1) := by decide +kernel
theorem dX6_asSeen_26 : decode cX6_asSeen 26 = .ok (.iconst 1, 1) := by decide +kernel
theorem dX6_asSeen_27 : decode cX6_asSeen 27 = .ok (.aload_n 0, 1) := by decide +kernel
theorem dX6_asSeen_28 : decode cX6_asSeen 28 = .ok (.getfield 61, 3) := by decide +kernel
theorem dX6_asSeen_31 : decode cX6_asSeen 31 = .ok (.iload 4, 2) := by decide +kernel
theorem dX6_asSeen_33 : decode cX6_asSeen 33 = .ok (.iaload, 1) := by decide +kernel
theorem dX6_asSeen_34 : decode cX6_asSeen 34 = .ok (.ishl, 1) := by decide +kernel
theorem dX6_asSeen_35 : decode cX6_asSeen 35 = .ok (.iand, 1) := by decide +kernel
theorem dX6_asSeen_36 : decode cX6_asSeen 36 = .ok (.istore_n 3, 1) := by decide +kernel
theorem dX6_asSeen_37 : decode cX6_asSeen 37 = .ok (.iinc 4 1, 3) := by decide +kernel
theorem dX6_asSeen_40 : decode cX6_asSeen 40 = .ok (.goto (-35), 3) := by decide +kernel
theorem dX6_asSeen_43 : decode cX6_asSeen 43 = .ok (.iload_n 3, 1) := by decide +kernel
theorem dX6_asSeen_44 : decode cX6_asSeen 44 = .ok (.ireturn, 1) := by decide +kernel
theorem dX6_ratedAs_0 : decode cX6_ratedAs 0 = .ok (.aload_n 0, 1) := by decide +kernel
theorem dX6_ratedAs_1 : decode cX6_ratedAs 1 = .ok (.dup, 1) := by decide +kernel
theorem dX6_ratedAs_2 : decode cX6_ratedAs 2 = .ok (.getfield 267, 3) := by decide +kernel
theorem dX6_ratedAs_5 : decode cX6_ratedAs 5 = .ok (.getstatic 288, 3) := by decide +kernel
theorem dX6_ratedAs_8 : decode cX6_ratedAs 8 = .ok (.iload_n 1, 1) := by decide +kernel
theorem dX6_ratedAs_9 : decode cX6_ratedAs 9 = .ok (.iaload, 1) := by decide +kernel
theorem dX6_ratedAs_10 : decode cX6_ratedAs 10 = .ok (.i2l, 1) := by decide +kernel
theorem dX6_ratedAs_11 : decode cX6_ratedAs 11 = .ok (.ladd, 1) := by decide +kernel
theorem dX6_ratedAs_12 : decode cX6_ratedAs 12 = .ok (.putfield 267, 3) := by decide +kernel
theorem dX6_ratedAs_15 : decode cX6_ratedAs 15 = .ok (.iload_n 1, 1) := by decide +kernel
theorem dX6_ratedAs_16 : decode cX6_ratedAs 16 = .ok (.ifCond .ne 11, 3) := by decide +kernel
theorem dX6_ratedAs_19 : decode cX6_ratedAs 19 = .ok (.aload_n 0, 1) := by decide +kernel
theorem dX6_ratedAs_20 : decode cX6_ratedAs 20 = .ok (.iload_n 2, 1) := by decide +kernel
theorem dX6_ratedAs_21 : decode cX6_ratedAs 21 = .ok (.invokevirtual 111, 3) := by decide +kernel
theorem dX6_ratedAs_24 : decode cX6_ratedAs 24 = .ok (.goto 13, 3) := by decide +kernel
theorem dX6_ratedAs_27 : decode cX6_ratedAs 27 = .ok (.aload_n 0, 1) := by decide +kernel
theorem dX6_ratedAs_28 : decode cX6_ratedAs 28 = .ok (.getstatic 291, 3) := by decide +kernel
theorem dX6_ratedAs_31 : decode cX6_ratedAs 31 = .ok (.iload_n 1, 1) := by decide +kernel
theorem dX6_ratedAs_32 : decode cX6_ratedAs 32 = .ok (.iaload, 1) := by decide +kernel
theorem dX6_ratedAs_33 : decode cX6_ratedAs 33 = .ok (.iload_n 2, 1) := by decide +kernel
theorem dX6_ratedAs_34 : decode cX6_ratedAs 34 = .ok (.invokevirtual 249, 3) := by decide +kernel
theorem dX6_ratedAs_37 : decode cX6_ratedAs 37 = .ok (.istore_n 3, 1) := by decide +kernel
theorem dX6_ratedAs_38 : decode cX6_ratedAs 38 = .ok (.iload_n 1, 1) := by decide +kernel
theorem dX6_ratedAs_39 : decode cX6_ratedAs 39 = .ok (.tableswitch 76 1 5 #[33, 45, 58, 62, 66], 33) := by decide +kernel
theorem dX6_ratedAs_72 : decode cX6_ratedAs 72 = .ok (.iload_n 3, 1) := by decide +kernel
theorem dX6_ratedAs_73 : decode cX6_ratedAs 73 = .ok (.aload_n 0, 1) := by decide +kernel
theorem dX6_ratedAs_74 : decode cX6_ratedAs 74 = .ok (.getfield 29, 3) := by decide +kernel
theorem dX6_ratedAs_77 : decode cX6_ratedAs 77 = .ok (.getfield 115, 3) := by decide +kernel
theorem dX6_ratedAs_80 : decode cX6_ratedAs 80 = .ok (.iload_n 2, 1) := by decide +kernel
theorem dX6_ratedAs_81 : decode cX6_ratedAs 81 = .ok (.iaload, 1) := by decide +kernel
theorem dX6_ratedAs_82 : decode cX6_ratedAs 82 = .ok (.iadd, 1) := by decide +kernel
theorem dX6_ratedAs_83 : decode cX6_ratedAs 83 = .ok (.ireturn, 1) := by decide +kernel
theorem dX6_ratedAs_84 : decode cX6_ratedAs 84 = .ok (.iload_n 3, 1) := by decide +kernel
theorem dX6_ratedAs_85 : decode cX6_ratedAs 85 = .ok (.aload_n 0, 1) := by decide +kernel
theorem dX6_ratedAs_86 : decode cX6_ratedAs 86 = .ok (.getfield 29, 3) := by decide +kernel
theorem dX6_ratedAs_89 : decode cX6_ratedAs 89 = .ok (.getfield 145, 3) := by decide +kernel
theorem dX6_ratedAs_92 : decode cX6_ratedAs 92 = .ok (.invokestatic 167, 3) := by decide +kernel
theorem dX6_ratedAs_95 : decode cX6_ratedAs 95 = .ok (.isub, 1) := by decide +kernel
theorem dX6_ratedAs_96 : decode cX6_ratedAs 96 = .ok (.ireturn, 1) := by decide +kernel
theorem dX6_ratedAs_97 : decode cX6_ratedAs 97 = .ok (.iconst 2, 1) := by decide +kernel
theorem dX6_ratedAs_98 : decode cX6_ratedAs 98 = .ok (.iload_n 3, 1) := by decide +kernel
theorem dX6_ratedAs_99 : decode cX6_ratedAs 99 = .ok (.imul, 1) := by decide +kernel
theorem dX6_ratedAs_100 : decode cX6_ratedAs 100 = .ok (.ireturn, 1) := by decide +kernel
theorem dX6_ratedAs_101 : decode cX6_ratedAs 101 = .ok (.iload_n 3, 1) := by decide +kernel
theorem dX6_ratedAs_102 : decode cX6_ratedAs 102 = .ok (.iload_n 2, 1) := by decide +kernel
theorem dX6_ratedAs_103 : decode cX6_ratedAs 103 = .ok (.iadd, 1) := by decide +kernel
theorem dX6_ratedAs_104 : decode cX6_ratedAs 104 = .ok (.ireturn, 1) := by decide +kernel
theorem dX6_ratedAs_105 : decode cX6_ratedAs 105 = .ok (.iload_n 3, 1) := by decide +kernel
theorem dX6_ratedAs_106 : decode cX6_ratedAs 106 = .ok (.aload_n 0, 1) := by decide +kernel
theorem dX6_ratedAs_107 : decode cX6_ratedAs 107 = .ok (.getfield 29, 3) := by decide +kernel
theorem dX6_ratedAs_110 : decode cX6_ratedAs 110 = .ok (.getfield 142, 3) := by decide +kernel
theorem dX6_ratedAs_113 : decode cX6_ratedAs 113 = .ok (.iadd, 1) := by decide +kernel
theorem dX6_ratedAs_114 : decode cX6_ratedAs 114 = .ok (.ireturn, 1) := by decide +kernel
theorem dX6_ratedAs_115 : decode cX6_ratedAs 115 = .ok (.iload_n 3, 1) := by decide +kernel
theorem dX6_ratedAs_116 : decode cX6_ratedAs 116 = .ok (.ireturn, 1) := by decide +kernel
theorem dX7_init_0 : decode cX7_init 0 = .ok (.aload_n 0, 1) := by decide +kernel
theorem dX7_init_1 : decode cX7_init 1 = .ok (.invokespecial 1, 3) := by decide +kernel
theorem dX7_init_4 : decode cX7_init 4 = .ok (.aload_n 0, 1) := by decide +kernel
theorem dX7_init_5 : decode cX7_init 5 = .ok (.sipush 200, 3) := by decide +kernel
theorem dX7_init_8 : decode cX7_init 8 = .ok (.newarray .int, 2) := by decide +kernel
theorem dX7_init_10 : decode cX7_init 10 = .ok (.putfield 7, 3) := by decide +kernel
end
section
theorem dX7_init_13 : decode cX7_init 13 = .ok (.aload_n 0, 1) := by decide +kernel
theorem dX7_init_14 : decode cX7_init 14 = .ok (.bipush 12, 2) := by decide +kernel
theorem dX7_init_16 : decode cX7_init 16 = .ok (.newarray .int, 2) := by decide +kernel
theorem dX7_init_18 : decode cX7_init 18 = .ok (.putfield 13, 3) := by decide +kernel
theorem dX7_init_21 : decode cX7_init 21 = .ok (.aload_n 0, 1) := by decide +kernel
theorem dX7_init_22 : decode cX7_init 22 = .ok (.bipush 48, 2) := by decide +kernel
theorem dX7_init_24 : decode cX7_init 24 = .ok (.newarray .int, 2) := by decide +kernel
theorem dX7_init_26 : decode cX7_init 26 = .ok (.putfield 16, 3) := by decide +kernel
theorem dX7_init_29 : decode cX7_init 29 = .ok (.aload_n 0, 1) := by decide +kernel
theorem dX7_init_30 : decode cX7_init 30 = .ok (.bipush 24, 2) := by decide +kernel
theorem dX7_init_32 : decode cX7_init 32 = .ok (.newarray .int, 2) := by decide +kernel
theorem dX7_init_34 : decode cX7_init 34 = .ok (.putfield 19, 3) := by decide +kernel
theorem dX7_init_37 : decode cX7_init 37 = .ok (.aload_n 0, 1) := by decide +kernel
theorem dX7_init_38 : decode cX7_init 38 = .ok (.bipush 24, 2) := by decide +kernel
theorem dX7_init_40 : decode cX7_init 40 = .ok (.newarray .int, 2) := by decide +kernel
theorem dX7_init_42 : decode cX7_init 42 = .ok (.putfield 22, 3) := by decide +kernel
theorem dX7_init_45 : decode cX7_init 45 = .ok (.aload_n 0, 1) := by decide +kernel
theorem dX7_init_46 : decode cX7_init 46 = .ok (.bipush 17, 2) := by decide +kernel
theorem dX7_init_48 : decode cX7_init 48 = .ok (.newarray .int, 2) := by decide +kernel
theorem dX7_init_50 : decode cX7_init 50 = .ok (.putfield 25, 3) := by decide +kernel
theorem dX7_init_53 : decode cX7_init 53 = .ok (.aload_n 0, 1) := by decide +kernel
theorem dX7_init_54 : decode cX7_init 54 = .ok (.bipush 34, 2) := by decide +kernel
theorem dX7_init_56 : decode cX7_init 56 = .ok (.newarray .int, 2) := by decide +kernel
theorem dX7_init_58 : decode cX7_init 58 = .ok (.putfield 28, 3) := by decide +kernel
theorem dX7_init_61 : decode cX7_init 61 = .ok (.aload_n 0, 1) := by decide +kernel
theorem dX7_init_62 : decode cX7_init 62 = .ok (.iconst 2, 1) := by decide +kernel
theorem dX7_init_63 : decode cX7_init 63 = .ok (.newarray .boolean, 2) := by decide +kernel
theorem dX7_init_65 : decode cX7_init 65 = .ok (.putfield 31, 3) := by decide +kernel
theorem dX7_init_68 : decode cX7_init 68 = .ok (.aload_n 0, 1) := by decide +kernel
theorem dX7_init_69 : decode cX7_init 69 = .ok (.sipush 170, 3) := by decide +kernel
theorem dX7_init_72 : decode cX7_init 72 = .ok (.newarray .int, 2) := by decide +kernel
theorem dX7_init_74 : decode cX7_init 74 = .ok (.putfield 35, 3) := by decide +kernel
theorem dX7_init_77 : decode cX7_init 77 = .ok (.aload_n 0, 1) := by decide +kernel
theorem dX7_init_78 : decode cX7_init 78 = .ok (.bipush 8, 2) := by decide +kernel
theorem dX7_init_80 : decode cX7_init 80 = .ok (.newarray .int, 2) := by decide +kernel
theorem dX7_init_82 : decode cX7_init 82 = .ok (.putfield 38, 3) := by decide +kernel
theorem dX7_init_85 : decode cX7_init 85 = .ok (.aload_n 0, 1) := by decide +kernel
theorem dX7_init_86 : decode cX7_init 86 = .ok (.iconst 5, 1) := by decide +kernel
theorem dX7_init_87 : decode cX7_init 87 = .ok (.newarray .int, 2) := by decide +kernel
theorem dX7_init_89 : decode cX7_init 89 = .ok (.putfield 41, 3) := by decide +kernel
theorem dX7_init_92 : decode cX7_init 92 = .ok (.aload_n 0, 1) := by decide +kernel
theorem dX7_init_93 : decode cX7_init 93 = .ok (.iconst 5, 1) := by decide +kernel
theorem dX7_init_94 : decode cX7_init 94 = .ok (.newarray .int, 2) := by decide +kernel
theorem dX7_init_96 : decode cX7_init 96 = .ok (.putfield 44, 3) := by decide +kernel
theorem dX7_init_99 : decode cX7_init 99 = .ok (.aload_n 0, 1) := by decide +kernel
theorem dX7_init_100 : decode cX7_init 100 = .ok (.bipush 12, 2) := by decide +kernel
theorem dX7_init_102 : decode cX7_init 102 = .ok (.newarray .int, 2) := by decide +kernel
theorem dX7_init_104 : decode cX7_init 104 = .ok (.putfield 47, 3) := by decide +kernel
theorem dX7_init_107 : decode cX7_init 107 = .ok (.aload_n 0, 1) := by decide +kernel
theorem dX7_init_108 : decode cX7_init 108 = .ok (.bipush 24, 2) := by decide +kernel
theorem dX7_init_110 : decode cX7_init 110 = .ok (.newarray .int, 2) := by decide +kernel
theorem dX7_init_112 : decode cX7_init 112 = .ok (.putfield 50, 3) := by decide +kernel
theorem dX7_init_115 : decode cX7_init 115 = .ok (.aload_n 0, 1) := by decide +kernel
theorem dX7_init_116 : decode cX7_init 116 = .ok (.bipush 12, 2) := by decide +kernel
theorem dX7_init_118 : decode cX7_init 118 = .ok (.newarray .int, 2) := by decide +kernel
theorem dX7_init_120 : decode cX7_init 120 = .ok (.putfield 53, 3) := by decide +kernel
theorem dX7_init_123 : decode cX7_init 123 = .ok (.aload_n 0, 1) := by decide +kernel
theorem dX7_init_124 : decode cX7_init 124 = .ok (.bipush 8, 2) := by decide +kernel
theorem dX7_init_126 : decode cX7_init 126 = .ok (.newarray .long, 2) := by decide +kernel
theorem dX7_init_128 : decode cX7_init 128 = .ok (.putfield 56, 3) := by decide +kernel
theorem dX7_init_131 : decode cX7_init 131 = .ok (.aload_n 0, 1) := by decide +kernel
theorem dX7_init_132 : decode cX7_init 132 = .ok (.bipush 8, 2) := by decide +kernel
theorem dX7_init_134 : decode cX7_init 134 = .ok (.newarray .long, 2) := by decide +kernel
theorem dX7_init_136 : decode cX7_init 136 = .ok (.putfield 60, 3) := by decide +kernel
theorem dX7_init_139 : decode cX7_init 139 = .ok (.aload_n 0, 1) := by decide +kernel
theorem dX7_init_140 : decode cX7_init 140 = .ok (.invokevirtual 63, 3) := by decide +kernel
theorem dX7_init_143 : decode cX7_init 143 = .ok (.aload_n 0, 1) := by decide +kernel
theorem dX7_init_144 : decode cX7_init 144 = .ok (.invokevirtual 66, 3) := by decide +kernel
theorem dX7_init_147 : decode cX7_init 147 = .ok (.return_, 1) := by decide +kernel
theorem dX7_in_0 : decode cX7_in 0 = .ok (.iload_n 0, 1) := by decide +kernel
theorem dX7_in_1 : decode cX7_in 1 = .ok (.iload_n 1, 1) := by decide +kernel
theorem dX7_in_2 : decode cX7_in 2 = .ok (.if_icmp .lt 12, 3) := by decide +kernel
theorem dX7_in_5 : decode cX7_in 5 = .ok (.iload_n 0, 1) := by decide +kernel
theorem dX7_in_6 : decode cX7_in 6 = .ok (.iload_n 2, 1) := by decide +kernel
theorem dX7_in_7 : decode cX7_in 7 = .ok (.if_icmp .gt 7, 3) := by decide +kernel
theorem dX7_in_10 : decode cX7_in 10 = .ok (.iconst 1, 1) := by decide +kernel
theorem dX7_in_11 : decode cX7_in 11 = .ok (.goto 4, 3) := by decide +kernel
theorem dX7_in_14 : decode cX7_in 14 = .ok (.iconst 0, 1) := by decide +kernel
theorem dX7_in_15 : decode cX7_in 15 = .ok (.ireturn, 1) := by decide +kernel
theorem dX7_ones_0 : decode cX7_ones 0 = .ok (.iconst 0, 1) := by decide +kernel
theorem dX7_ones_1 : decode cX7_ones 1 = .ok (.istore_n 1, 1) := by decide +kernel
theorem dX7_ones_2 : decode cX7_ones 2 = .ok (.iconst 0, 1) := by decide +kernel
theorem dX7_ones_3 : decode cX7_ones 3 = .ok (.istore_n 2, 1) := by decide +kernel
theorem dX7_ones_4 : decode cX7_ones 4 = .ok (.iload_n 2, 1) := by decide +kernel
theorem dX7_ones_5 : decode cX7_ones 5 = .ok (.bipush 12, 2) := by decide +kernel
theorem dX7_ones_7 : decode cX7_ones 7 = .ok (.if_icmp .ge 17, 3) := by decide +kernel
theorem dX7_ones_10 : decode cX7_ones 10 = .ok (.iload_n 1, 1) := by decide +kernel
theorem dX7_ones_11 : decode cX7_ones 11 = .ok (.iload_n 0, 1) := by decide +kernel
theorem dX7_ones_12 : decode cX7_ones 12 = .ok (.iload_n 2, 1) := by decide +kernel
theorem dX7_ones_13 : decode cX7_ones 13 = .ok (.ishr, 1) := by decide +kernel
theorem dX7_ones_14 : decode cX7_ones 14 = .ok (.iconst 1, 1) := by decide +kernel
theorem dX7_ones_15 : decode cX7_ones 15 = .ok (.iand, 1) := by decide +kernel
theorem dX7_ones_16 : decode cX7_ones 16 = .ok (.iadd, 1) := by decide +kernel
theorem dX7_ones_17 : decode cX7_ones 17 = .ok (.istore_n 1, 1) := by decide +kernel
theorem dX7_ones_18 : decode cX7_ones 18 = .ok (.iinc 2 1, 3) := by decide +kernel
theorem dX7_ones_21 : decode cX7_ones 21 = .ok (.goto (-17), 3) := by decide +kernel
theorem dX7_ones_24 : decode cX7_ones 24 = .ok (.iload_n 1, 1) := by decide +kernel
theorem dX7_ones_25 : decode cX7_ones 25 = .ok (.ireturn, 1) := by decide +kernel
theorem dX7_type_0 : decode cX7_type 0 = .ok (.aload_n 0, 1) := by decide +kernel
theorem dX7_type_1 : decode cX7_type 1 = .ok (.iconst 0, 1) := by decide +kernel
theorem dX7_type_2 : decode cX7_type 2 = .ok (.putfield 69, 3) := by decide +kernel
theorem dX7_type_5 : decode cX7_type 5 = .ok (.iload_n 1, 1) := by decide +kernel
theorem dX7_type_6 : decode cX7_type 6 = .ok (.iconst 0, 1) := by decide +kernel
theorem dX7_type_7 : decode cX7_type 7 = .ok (.sipush 255, 3) := by decide +kernel
theorem dX7_type_10 : decode cX7_type 10 = .ok (.invokestatic 73, 3) := by decide +kernel
theorem dX7_type_13 : decode cX7_type 13 = .ok (.ifCond .ne 5, 3) := by decide +kernel
theorem dX7_type_16 : decode cX7_type 16 = .ok (.iconst (-1), 1) := by decide +kernel
theorem dX7_type_17 : decode cX7_type 17 = .ok (.ireturn, 1) := by decide +kernel
theorem dX7_type_18 : decode cX7_type 18 = .ok (.aload_n 0, 1) := by decide +kernel
theorem dX7_type_19 : decode cX7_type 19 = .ok (.getfield 77, 3) := by decide +kernel
theorem dX7_type_22 : decode cX7_type 22 = .ok (.sipush 200, 3) := by decide +kernel
theorem dX7_type_25 : decode cX7_type 25 = .ok (.if_icmp .ne 6, 3) := by decide +kernel
theorem dX7_type_28 : decode cX7_type 28 = .ok (.bipush (-3), 2) := by decide +kernel
theorem dX7_type_30 : decode cX7_type 30 = .ok (.ireturn, 1) := by decide +kernel
theorem dX7_type_31 : decode cX7_type 31 = .ok (.aload_n 0, 1) := by decide +kernel
theorem dX7_type_32 : decode cX7_type 32 = .ok (.getfield 7, 3) := by decide +kernel
theorem dX7_type_35 : decode cX7_type 35 = .ok (.aload_n 0, 1) := by decide +kernel
theorem dX7_type_36 : decode cX7_type 36 = .ok (.getfield 77, 3) := by decide +kernel
theorem dX7_type_39 : decode cX7_type 39 = .ok (.iload_n 1, 1) := by decide +kernel
theorem dX7_type_40 : decode cX7_type 40 = .ok (.iastore, 1) := by decide +kernel
theorem dX7_type_41 : decode cX7_type 41 = .ok (.aload_n 0, 1) := by decide +kernel
theorem dX7_type_42 : decode cX7_type 42 = .ok (.dup, 1) := by decide +kernel
theorem dX7_type_43 : decode cX7_type 43 = .ok (.getfield 77, 3) := by decide +kernel
theorem dX7_type_46 : decode cX7_type 46 = .ok (.iconst 1, 1) := by decide +kernel
theorem dX7_type_47 : decode cX7_type 47 = .ok (.iadd, 1) := by decide +kernel
theorem dX7_type_48 : decode cX7_type 48 = .ok (.putfield 77, 3) := by decide +kernel
theorem dX7_type_51 : decode cX7_type 51 = .ok (.aload_n 0, 1) := by decide +kernel
theorem dX7_type_52 : decode cX7_type 52 = .ok (.getfield 77, 3) := by decide +kernel
theorem dX7_type_55 : decode cX7_type 55 = .ok (.ireturn, 1) := by decide +kernel
theorem dX7_clear_0 : decode cX7_clear 0 = .ok (.aload_n 0, 1) := by decide +kernel
theorem dX7_clear_1 : decode cX7_clear 1 = .ok (.iconst 0, 1) := by decide +kernel
theorem dX7_clear_2 : decode cX7_clear 2 = .ok (.putfield 69, 3) := by decide +kernel
theorem dX7_clear_5 : decode cX7_clear 5 = .ok (.aload_n 0, 1) := by decide +kernel
theorem dX7_clear_6 : decode cX7_clear 6 = .ok (.getfield 77, 3) := by decide +kernel
theorem dX7_clear_9 : decode cX7_clear 9 = .ok (.istore_n 1, 1) := by decide +kernel
theorem dX7_clear_10 : decode cX7_clear 10 = .ok (.aload_n 0, 1) := by decide +kernel
theorem dX7_clear_11 : decode cX7_clear 11 = .ok (.iconst 0, 1) := by decide +kernel
theorem dX7_clear_12 : decode cX7_clear 12 = .ok (.putfield 77, 3) := by decide +kernel
theorem dX7_clear_15 : decode cX7_clear 15 = .ok (.iload_n 1, 1) := by decide +kernel
theorem dX7_clear_16 : decode cX7_clear 16 = .ok (.ireturn, 1) := by decide +kernel
theorem dX7_letterAt_0 : decode cX7_letterAt 0 = .ok (.iload_n 1, 1) := by decide +kernel
theorem dX7_letterAt_1 : decode cX7_letterAt 1 = .ok (.aload_n 0, 1) := by decide +kernel
theorem dX7_letterAt_2 : decode cX7_letterAt 2 = .ok (.getfield 77, 3) := by decide +kernel
theorem dX7_letterAt_5 : decode cX7_letterAt 5 = .ok (.if_icmp .ge 12, 3) := by decide +kernel
theorem dX7_letterAt_8 : decode cX7_letterAt 8 = .ok (.aload_n 0, 1) := by decide +kernel
theorem dX7_letterAt_9 : decode cX7_letterAt 9 = .ok (.getfield 7, 3) := by decide +kernel
theorem dX7_letterAt_12 : decode cX7_letterAt 12 = .ok (.iload_n 1, 1) := by decide +kernel
theorem dX7_letterAt_13 : decode cX7_letterAt 13 = .ok (.iaload, 1) := by decide +kernel
theorem dX7_letterAt_14 : decode cX7_letterAt 14 = .ok (.goto 4, 3) := by decide +kernel
theorem dX7_letterAt_17 : decode cX7_letterAt 17 = .ok (.iconst (-1), 1) := by decide +kernel
theorem dX7_letterAt_18 : decode cX7_letterAt 18 = .ok (.ireturn, 1) := by decide +kernel
theorem dX7_isLetter_0 : decode cX7_isLetter 0 = .ok (.iload_n 0, 1) := by decide +kernel
theorem dX7_isLetter_1 : decode cX7_isLetter 1 = .ok (.bipush 112, 2) := by decide +kernel
theorem dX7_isLetter_3 : decode cX7_isLetter 3 = .ok (.if_icmp .eq 33, 3) := by decide +kernel
theorem dX7_isLetter_6 : decode cX7_isLetter 6 = .ok (.iload_n 0, 1) := by decide +kernel
theorem dX7_isLetter_7 : decode cX7_isLetter 7 = .ok (.bipush 114, 2) := by decide +kernel
theorem dX7_isLetter_9 : decode cX7_isLetter 9 = .ok (.if_icmp .eq 27, 3) := by decide +kernel
theorem dX7_isLetter_12 : decode cX7_isLetter 12 = .ok (.iload_n 0, 1) := by decide +kernel
theorem dX7_isLetter_13 : decode cX7_isLetter 13 = .ok (.bipush 115, 2) := by decide +kernel
theorem dX7_isLetter_15 : decode cX7_isLetter 15 = .ok (.if_icmp .eq 21, 3) := by decide +kernel
theorem dX7_isLetter_18 : decode cX7_isLetter 18 = .ok (.iload_n 0, 1) := by decide +kernel
theorem dX7_isLetter_19 : decode cX7_isLetter 19 = .ok (.bipush 103, 2) := by decide +kernel
theorem dX7_isLetter_21 : decode cX7_isLetter 21 = .ok (.if_icmp .eq 15, 3) := by decide +kernel
theorem dX7_isLetter_24 : decode cX7_isLetter 24 = .ok (.iload_n 0, 1) := by decide +kernel
theorem dX7_isLetter_25 : decode cX7_isLetter 25 = .ok (.bipush 110, 2) := by decide +kernel
theorem dX7_isLetter_27 : decode cX7_isLetter 27 = .ok (.if_icmp .eq 9, 3) := by decide +kernel
theorem dX7_isLetter_30 : decode cX7_isLetter 30 = .ok (.iload_n 0, 1) := by decide +kernel
theorem dX7_isLetter_31 : decode cX7_isLetter 31 = .ok (.bipush 108, 2) := by decide +kernel
theorem dX7_isLetter_33 : decode cX7_isLetter 33 = .ok (.if_icmp .ne 7, 3) := by decide +kernel
theorem dX7_isLetter_36 : decode cX7_isLetter 36 = .ok (.iconst 1, 1) := by decide +kernel
theorem dX7_isLetter_37 : decode cX7_isLetter 37 = .ok (.goto 4, 3) := by decide +kernel
theorem dX7_isLetter_40 : decode cX7_isLetter 40 = .ok (.iconst 0, 1) := by decide +kernel
theorem dX7_isLetter_41 : decode cX7_isLetter 41 = .ok (.ireturn, 1) := by decide +kernel
theorem dX7_advances_0 : decode cX7_advances 0 = .ok (.aload_n 0, 1) := by decide +kernel
theorem dX7_advances_1 : decode cX7_advances 1 = .ok (.aload_n 0, 1) := by decide +kernel
theorem dX7_advances_2 : decode cX7_advances 2 = .ok (.getfield 80, 3) := by decide +kernel
theorem dX7_advances_5 : decode cX7_advances 5 = .ok (.invokevirtual 83, 3) := by decide +kernel
theorem dX7_advances_8 : decode cX7_advances 8 = .ok (.bipush 32, 2) := by decide +kernel
theorem dX7_advances_10 : decode cX7_advances 10 = .ok (.if_icmp .ne 16, 3) := by decide +kernel
theorem dX7_advances_13 : decode cX7_advances 13 = .ok (.aload_n 0, 1) := by decide +kernel
theorem dX7_advances_14 : decode cX7_advances 14 = .ok (.dup, 1) := by decide +kernel
theorem dX7_advances_15 : decode cX7_advances 15 = .ok (.getfield 80, 3) := by decide +kernel
theorem dX7_advances_18 : decode cX7_advances 18 = .ok (.iconst 1, 1) := by decide +kernel
theorem dX7_advances_19 : decode cX7_advances 19 = .ok (.iadd, 1) := by decide +kernel
theorem dX7_advances_20 : decode cX7_advances 20 = .ok (.putfield 80, 3) := by decide +kernel
theorem dX7_advances_23 : decode cX7_advances 23 = .ok (.goto (-23), 3) := by decide +kernel
theorem dX7_advances_26 : decode cX7_advances 26 = .ok (.aload_n 0, 1) := by decide +kernel
theorem dX7_advances_27 : decode cX7_advances 27 = .ok (.aload_n 0, 1) := by decide +kernel
theorem dX7_advances_28 : decode cX7_advances 28 = .ok (.getfield 80, 3) := by decide +kernel
theorem dX7_advances_31 : decode cX7_advances 31 = .ok (.putfield 87, 3) := by decide +kernel
theorem dX7_advances_34 : decode cX7_advances 34 = .ok (.aload_n 0, 1) := by decide +kernel
theorem dX7_advances_35 : decode cX7_advances 35 = .ok (.aload_n 0, 1) := by decide +kernel
theorem dX7_advances_36 : decode cX7_advances 36 = .ok (.getfield 80, 3) := by decide +kernel
theorem dX7_advances_39 : decode cX7_advances 39 = .ok (.invokevirtual 83, 3) := by decide +kernel
theorem dX7_advances_42 : decode cX7_advances 42 = .ok (.istore_n 1, 1) := by decide +kernel
theorem dX7_advances_43 : decode cX7_advances 43 = .ok (.iload_n 1, 1) := by decide +kernel
theorem dX7_advances_44 : decode cX7_advances 44 = .ok (.ifCond .ge 11, 3) := by decide +kernel
theorem dX7_advances_47 : decode cX7_advances 47 = .ok (.aload_n 0, 1) := by decide +kernel
theorem dX7_advances_48 : decode cX7_advances 48 = .ok (.iconst 0, 1) := by decide +kernel
theorem dX7_advances_49 : decode cX7_advances 49 = .ok (.putfield 90, 3) := by decide +kernel
theorem dX7_advances_52 : decode cX7_advances 52 = .ok (.goto 170, 3) := by decide +kernel
theorem dX7_advances_55 : decode cX7_advances 55 = .ok (.iload_n 1, 1) := by decide +kernel
theorem dX7_advances_56 : decode cX7_advances 56 = .ok (.bipush 48, 2) := by decide +kernel
theorem dX7_advances_58 : decode cX7_advances 58 = .ok (.bipush 57, 2) := by decide +kernel
theorem dX7_advances_60 : decode cX7_advances 60 = .ok (.invokestatic 73, 3) := by decide +kernel
theorem dX7_advances_63 : decode cX7_advances 63 = .ok (.ifCond .eq 118, 3) := by decide +kernel
theorem dX7_advances_66 : decode cX7_advances 66 = .ok (.aload_n 0, 1) := by decide +kernel
theorem dX7_advances_67 : decode cX7_advances 67 = .ok (.iconst 0, 1) := by decide +kernel
theorem dX7_advances_68 : decode cX7_advances 68 = .ok (.putfield 93, 3) := by decide +kernel
theorem dX7_advances_71 : decode cX7_advances 71 = .ok (.aload_n 0, 1) := by decide +kernel
theorem dX7_advances_72 : decode cX7_advances 72 = .ok (.aload_n 0, 1) := by decide +kernel
theorem dX7_advances_73 : decode cX7_advances 73 = .ok (.getfield 80, 3) := by decide +kernel
theorem dX7_advances_76 : decode cX7_advances 76 = .ok (.invokevirtual 83, 3) := by decide +kernel
theorem dX7_advances_79 : decode cX7_advances 79 = .ok (.bipush 48, 2) := by decide +kernel
theorem dX7_advances_81 : decode cX7_advances 81 = .ok (.bipush 57, 2) := by decide +kernel
theorem dX7_advances_83 : decode cX7_advances 83 = .ok (.invokestatic 73, 3) := by decide +kernel
theorem dX7_advances_86 : decode cX7_advances 86 = .ok (.ifCond .eq 55, 3) := by decide +kernel
theorem dX7_advances_89 : decode cX7_advances 89 = .ok (.aload_n 0, 1) := by decide +kernel
theorem dX7_advances_90 : decode cX7_advances 90 = .ok (.aload_n 0, 1) := by decide +kernel
theorem dX7_advances_91 : decode cX7_advances 91 = .ok (.getfield 93, 3) := by decide +kernel
theorem dX7_advances_94 : decode cX7_advances 94 = .ok (.bipush 99, 2) := by decide +kernel
theorem dX7_advances_96 : decode cX7_advances 96 = .ok (.if_icmp .le 10, 3) := by decide +kernel
theorem dX7_advances_99 : decode cX7_advances 99 = .ok (.aload_n 0, 1) := by decide +kernel
theorem dX7_advances_100 : decode cX7_advances 100 = .ok (.getfield 93, 3) := by decide +kernel
theorem dX7_advances_103 : decode cX7_advances 103 = .ok (.goto 22, 3) := by decide +kernel
theorem dX7_advances_106 : decode cX7_advances 106 = .ok (.bipush 10, 2) := by decide +kernel
theorem dX7_advances_108 : decode cX7_advances 108 = .ok (.aload_n 0, 1) := by decide +kernel
theorem dX7_advances_109 : decode cX7_advances 109 = .ok (.getfield 93, 3) := by decide +kernel
theorem dX7_advances_112 : decode cX7_advances 112 = .ok (.imul, 1) := by decide +kernel
theorem dX7_advances_113 : decode cX7_advances 113 = .ok (.aload_n 0, 1) := by decide +kernel
theorem dX7_advances_114 : decode cX7_advances 114 = .ok (.aload_n 0, 1) := by decide +kernel
theorem dX7_advances_115 : decode cX7_advances 115 = .ok (.getfield 80, 3) := by decide +kernel
theorem dX7_advances_118 : decode cX7_advances 118 = .ok (.invokevirtual 83, 3) := by decide +kernel
theorem dX7_advances_121 : decode cX7_advances 121 = .ok (.iadd, 1) := by decide +kernel
theorem dX7_advances_122 : decode cX7_advances 122 = .ok (.bipush 48, 2) := by decide +kernel
theorem dX7_advances_124 : decode cX7_advances 124 = .ok (.isub, 1) := by decide +kernel
theorem dX7_advances_125 : decode cX7_advances 125 = .ok (.putfield 93, 3) := by decide +kernel
theorem dX7_advances_128 : decode cX7_advances 128 = .ok (.aload_n 0, 1) := by decide +kernel
theorem dX7_advances_129 : decode cX7_advances 129 = .ok (.dup, 1) := by decide +kernel
theorem dX7_advances_130 : decode cX7_advances 130 = .ok (.getfield 80, 3) := by decide +kernel
theorem dX7_advances_133 : decode cX7_advances 133 = .ok (.iconst 1, 1) := by decide +kernel
theorem dX7_advances_134 : decode cX7_advances 134 = .ok (.iadd, 1) := by decide +kernel
theorem dX7_advances_135 : decode cX7_advances 135 = .ok (.putfield 80, 3) := by decide +kernel
theorem dX7_advances_138 : decode cX7_advances 138 = .ok (.goto (-67), 3) := by decide +kernel
theorem dX7_advances_141 : decode cX7_advances 141 = .ok (.aload_n 0, 1) := by decide +kernel
theorem dX7_advances_142 : decode cX7_advances 142 = .ok (.aload_n 0, 1) := by decide +kernel
theorem dX7_advances_143 : decode cX7_advances 143 = .ok (.getfield 93, 3) := by decide +kernel
theorem dX7_advances_146 : decode cX7_advances 146 = .ok (.bipush 99, 2) := by decide +kernel
theorem dX7_advances_148 : decode cX7_advances 148 = .ok (.if_icmp .gt 22, 3) := by decide +kernel
theorem dX7_advances_151 : decode cX7_advances 151 = .ok (.iload_n 1, 1) := by decide +kernel
theorem dX7_advances_152 : decode cX7_advances 152 = .ok (.bipush 48, 2) := by decide +kernel
theorem dX7_advances_154 : decode cX7_advances 154 = .ok (.if_icmp .ne 20, 3) := by decide +kernel
theorem dX7_advances_157 : decode cX7_advances 157 = .ok (.aload_n 0, 1) := by decide +kernel
theorem dX7_advances_158 : decode cX7_advances 158 = .ok (.getfield 80, 3) := by decide +kernel
theorem dX7_advances_161 : decode cX7_advances 161 = .ok (.aload_n 0, 1) := by decide +kernel
theorem dX7_advances_162 : decode cX7_advances 162 = .ok (.getfield 87, 3) := by decide +kernel
theorem dX7_advances_165 : decode cX7_advances 165 = .ok (.isub, 1) := by decide +kernel
theorem dX7_advances_166 : decode cX7_advances 166 = .ok (.iconst 1, 1) := by decide +kernel
theorem dX7_advances_167 : decode cX7_advances 167 = .ok (.if_icmp .le 7, 3) := by decide +kernel
theorem dX7_advances_170 : decode cX7_advances 170 = .ok (.iconst 4, 1) := by decide +kernel
theorem dX7_advances_171 : decode cX7_advances 171 = .ok (.goto 4, 3) := by decide +kernel
theorem dX7_advances_174 : decode cX7_advances 174 = .ok (.iconst 2, 1) := by decide +kernel
theorem dX7_advances_175 : decode cX7_advances 175 = .ok (.putfield 90, 3) := by decide +kernel
theorem dX7_advances_178 : decode cX7_advances 178 = .ok (.goto 44, 3) := by decide +kernel
theorem dX7_advances_181 : decode cX7_advances 181 = .ok (.aload_n 0, 1) := by decide +kernel
theorem dX7_advances_182 : decode cX7_advances 182 = .ok (.dup, 1) := by decide +kernel
theorem dX7_advances_183 : decode cX7_advances 183 = .ok (.getfield 80, 3) := by decide +kernel
theorem dX7_advances_186 : decode cX7_advances 186 = .ok (.iconst 1, 1) := by decide +kernel
theorem dX7_advances_187 : decode cX7_advances 187 = .ok (.iadd, 1) := by decide +kernel
theorem dX7_advances_188 : decode cX7_advances 188 = .ok (.putfield 80, 3) := by decide +kernel
theorem dX7_advances_191 : decode cX7_advances 191 = .ok (.aload_n 0, 1) := by decide +kernel
theorem dX7_advances_192 : decode cX7_advances 192 = .ok (.iload_n 1, 1) := by decide +kernel
theorem dX7_advances_193 : decode cX7_advances 193 = .ok (.putfield 93, 3) := by decide +kernel
theorem dX7_advances_196 : decode cX7_advances 196 = .ok (.aload_n 0, 1) := by decide +kernel
theorem dX7_advances_197 : decode cX7_advances 197 = .ok (.iload_n 1, 1) := by decide +kernel
theorem dX7_advances_198 : decode cX7_advances 198 = .ok (.bipush 59, 2) := by decide +kernel
theorem dX7_advances_200 : decode cX7_advances 200 = .ok (.if_icmp .ne 7, 3) := by decide +kernel
theorem dX7_advances_203 : decode cX7_advances 203 = .ok (.iconst 3, 1) := by decide +kernel
theorem dX7_advances_204 : decode cX7_advances 204 = .ok (.goto 15, 3) := by decide +kernel
theorem dX7_advances_207 : decode cX7_advances 207 = .ok (.iload_n 1, 1) := by decide +kernel
theorem dX7_advances_208 : decode cX7_advances 208 = .ok (.invokestatic 96, 3) := by decide +kernel
theorem dX7_advances_211 : decode cX7_advances 211 = .ok (.ifCond .eq 7, 3) := by decide +kernel
theorem dX7_advances_214 : decode cX7_advances 214 = .ok (.iconst 1, 1) := by decide +kernel
theorem dX7_advances_215 : decode cX7_advances 215 = .ok (.goto 4, 3) := by decide +kernel
theorem dX7_advances_218 : decode cX7_advances 218 = .ok (.iconst 4, 1) := by decide +kernel
theorem dX7_advances_219 : decode cX7_advances 219 = .ok (.putfield 90, 3) := by decide +kernel
theorem dX7_advances_222 : decode cX7_advances 222 = .ok (.return_, 1) := by decide +kernel
theorem dX7_isWell_0 : decode cX7_isWell 0 = .ok (.aload_n 0, 1) := by decide +kernel
theorem dX7_isWell_1 : decode cX7_isWell 1 = .ok (.getfield 100, 3) := by decide +kernel
theorem dX7_isWell_4 : decode cX7_isWell 4 = .ok (.ifCond .ge 7, 3) := by decide +kernel
theorem dX7_isWell_7 : decode cX7_isWell 7 = .ok (.iconst 1, 1) := by decide +kernel
theorem dX7_isWell_8 : decode cX7_isWell 8 = .ok (.goto 4, 3) := by decide +kernel
theorem dX7_isWell_11 : decode cX7_isWell 11 = .ok (.iconst 0, 1) := by decide +kernel
theorem dX7_isWell_12 : decode cX7_isWell 12 = .ok (.ireturn, 1) := by decide +kernel
theorem dX7_takesToken_0 : decode cX7_takesToken 0 = .ok (.aload_n 0, 1) := by decide +kernel
theorem dX7_takesToken_1 : decode cX7_takesToken 1 = .ok (.invokevirtual 103, 3) := by decide +kernel
theorem dX7_takesToken_4 : decode cX7_takesToken 4 = .ok (.ifCond .ne 5, 3) := by decide +kernel
theorem dX7_takesToken_7 : decode cX7_takesToken 7 = .ok (.iconst 0, 1) := by decide +kernel
theorem dX7_takesToken_8 : decode cX7_takesToken 8 = .ok (.ireturn, 1) := by decide +kernel
theorem dX7_takesToken_9 : decode cX7_takesToken 9 = .ok (.iload_n 1, 1) := by decide +kernel
theorem dX7_takesToken_10 : decode cX7_takesToken 10 = .ok (.ifCond .ne 13, 3) := by decide +kernel
theorem dX7_takesToken_13 : decode cX7_takesToken 13 = .ok (.aload_n 0, 1) := by decide +kernel
theorem dX7_takesToken_14 : decode cX7_takesToken 14 = .ok (.aload_n 0, 1) := by decide +kernel
theorem dX7_takesToken_15 : decode cX7_takesToken 15 = .ok (.getfield 87, 3) := by decide +kernel
theorem dX7_takesToken_18 : decode cX7_takesToken 18 = .ok (.putfield 100, 3) := by decide +kernel
theorem dX7_takesToken_21 : decode cX7_takesToken 21 = .ok (.iconst 0, 1) := by decide +kernel
theorem dX7_takesToken_22 : decode cX7_takesToken 22 = .ok (.ireturn, 1) := by decide +kernel
theorem dX7_takesToken_23 : decode cX7_takesToken 23 = .ok (.aload_n 0, 1) := by decide +kernel
theorem dX7_takesToken_24 : decode cX7_takesToken 24 = .ok (.getfield 93, 3) := by decide +kernel
theorem dX7_takesToken_27 : decode cX7_takesToken 27 = .ok (.istore_n 2, 1) := by decide +kernel
theorem dX7_takesToken_28 : decode cX7_takesToken 28 = .ok (.aload_n 0, 1) := by decide +kernel
theorem dX7_takesToken_29 : decode cX7_takesToken 29 = .ok (.invokevirtual 107, 3) := by decide +kernel
theorem dX7_takesToken_32 : decode cX7_takesToken 32 = .ok (.iload_n 2, 1) := by decide +kernel
theorem dX7_takesToken_33 : decode cX7_takesToken 33 = .ok (.ireturn, 1) := by decide +kernel
theorem dX7_number_0 : decode cX7_number 0 = .ok (.aload_n 0, 1) := by decide +kernel
theorem dX7_number_1 : decode cX7_number 1 = .ok (.aload_n 0, 1) := by decide +kernel
theorem dX7_number_2 : decode cX7_number 2 = .ok (.getfield 90, 3) := by decide +kernel
theorem dX7_number_5 : decode cX7_number 5 = .ok (.iconst 2, 1) := by decide +kernel
theorem dX7_number_6 : decode cX7_number 6 = .ok (.if_icmp .ne 19, 3) := by decide +kernel
theorem dX7_number_9 : decode cX7_number 9 = .ok (.aload_n 0, 1) := by decide +kernel
theorem dX7_number_10 : decode cX7_number 10 = .ok (.getfield 93, 3) := by decide +kernel
theorem dX7_number_13 : decode cX7_number 13 = .ok (.iload_n 1, 1) := by decide +kernel
theorem dX7_number_14 : decode cX7_number 14 = .ok (.iload_n 2, 1) := by decide +kernel
theorem dX7_number_15 : decode cX7_number 15 = .ok (.invokestatic 73, 3) := by decide +kernel
theorem dX7_number_18 : decode cX7_number 18 = .ok (.ifCond .eq 7, 3) := by decide +kernel
theorem dX7_number_21 : decode cX7_number 21 = .ok (.iconst 1, 1) := by decide +kernel
theorem dX7_number_22 : decode cX7_number 22 = .ok (.goto 4, 3) := by decide +kernel
theorem dX7_number_25 : decode cX7_number 25 = .ok (.iconst 0, 1) := by decide +kernel
theorem dX7_number_26 : decode cX7_number 26 = .ok (.invokevirtual 110, 3) := by decide +kernel
theorem dX7_number_29 : decode cX7_number 29 = .ok (.ireturn, 1) := by decide +kernel
theorem dX7_unlike_0 : decode cX7_unlike 0 = .ok (.aload_n 0, 1) := by decide +kernel
theorem dX7_unlike_1 : decode cX7_unlike 1 = .ok (.aload_n 0, 1) := by decide +kernel
theorem dX7_unlike_2 : decode cX7_unlike 2 = .ok (.getfield 90, 3) := by decide +kernel
theorem dX7_unlike_5 : decode cX7_unlike 5 = .ok (.iconst 2, 1) := by decide +kernel
theorem dX7_unlike_6 : decode cX7_unlike 6 = .ok (.if_icmp .ne 27, 3) := by decide +kernel
theorem dX7_unlike_9 : decode cX7_unlike 9 = .ok (.aload_n 0, 1) := by decide +kernel
theorem dX7_unlike_10 : decode cX7_unlike 10 = .ok (.getfield 93, 3) := by decide +kernel
theorem dX7_unlike_13 : decode cX7_unlike 13 = .ok (.iconst 0, 1) := by decide +kernel
theorem dX7_unlike_14 : decode cX7_unlike 14 = .ok (.iload_n 1, 1) := by decide +kernel
theorem dX7_unlike_15 : decode cX7_unlike 15 = .ok (.invokestatic 73, 3) := by decide +kernel
theorem dX7_unlike_18 : decode cX7_unlike 18 = .ok (.ifCond .eq 15, 3) := by decide +kernel
theorem dX7_unlike_21 : decode cX7_unlike 21 = .ok (.aload_n 0, 1) := by decide +kernel
theorem dX7_unlike_22 : decode cX7_unlike 22 = .ok (.getfield 93, 3) := by decide +kernel
theorem dX7_unlike_25 : decode cX7_unlike 25 = .ok (.iload_n 2, 1) := by decide +kernel
theorem dX7_unlike_26 : decode cX7_unlike 26 = .ok (.if_icmp .eq 7, 3) := by decide +kernel
theorem dX7_unlike_29 : decode cX7_unlike 29 = .ok (.iconst 1, 1) := by decide +kernel
theorem dX7_unlike_30 : decode cX7_unlike 30 = .ok (.goto 4, 3) := by decide +kernel
theorem dX7_unlike_33 : decode cX7_unlike 33 = .ok (.iconst 0, 1) := by decide +kernel
theorem dX7_unlike_34 : decode cX7_unlike 34 = .ok (.invokevirtual 110, 3) := by decide +kernel
theorem dX7_unlike_37 : decode cX7_unlike 37 = .ok (.ireturn, 1) := by decide +kernel
theorem dX7_begins_0 : decode cX7_begins 0 = .ok (.aload_n 0, 1) := by decide +kernel
theorem dX7_begins_1 : decode cX7_begins 1 = .ok (.iconst 0, 1) := by decide +kernel
theorem dX7_begins_2 : decode cX7_begins 2 = .ok (.putfield 114, 3) := by decide +kernel
theorem dX7_begins_5 : decode cX7_begins 5 = .ok (.aload_n 0, 1) := by decide +kernel
theorem dX7_begins_6 : decode cX7_begins 6 = .ok (.getfield 13, 3) := by decide +kernel
theorem dX7_begins_9 : decode cX7_begins 9 = .ok (.bipush 6, 2) := by decide +kernel
theorem dX7_begins_11 : decode cX7_begins 11 = .ok (.iconst 2, 1) := by decide +kernel
theorem dX7_begins_12 : decode cX7_begins 12 = .ok (.iastore, 1) := by decide +kernel
theorem dX7_begins_13 : decode cX7_begins 13 = .ok (.aload_n 0, 1) := by decide +kernel
theorem dX7_begins_14 : decode cX7_begins 14 = .ok (.getfield 13, 3) := by decide +kernel
theorem dX7_begins_17 : decode cX7_begins 17 = .ok (.bipush 7, 2) := by decide +kernel
theorem dX7_begins_19 : decode cX7_begins 19 = .ok (.iconst 0, 1) := by decide +kernel
theorem dX7_begins_20 : decode cX7_begins 20 = .ok (.iastore, 1) := by decide +kernel
theorem dX7_begins_21 : decode cX7_begins 21 = .ok (.aload_n 0, 1) := by decide +kernel
theorem dX7_begins_22 : decode cX7_begins 22 = .ok (.getfield 13, 3) := by decide +kernel
theorem dX7_begins_25 : decode cX7_begins 25 = .ok (.bipush 8, 2) := by decide +kernel
theorem dX7_begins_27 : decode cX7_begins 27 = .ok (.iconst 0, 1) := by decide +kernel
theorem dX7_begins_28 : decode cX7_begins 28 = .ok (.iastore, 1) := by decide +kernel
theorem dX7_begins_29 : decode cX7_begins 29 = .ok (.aload_n 0, 1) := by decide +kernel
theorem dX7_begins_30 : decode cX7_begins 30 = .ok (.getfield 13, 3) := by decide +kernel
theorem dX7_begins_33 : decode cX7_begins 33 = .ok (.bipush 9, 2) := by decide +kernel
theorem dX7_begins_35 : decode cX7_begins 35 = .ok (.iconst 1, 1) := by decide +kernel
theorem dX7_begins_36 : decode cX7_begins 36 = .ok (.iastore, 1) := by decide +kernel
theorem dX7_begins_37 : decode cX7_begins 37 = .ok (.aload_n 0, 1) := by decide +kernel
theorem dX7_begins_38 : decode cX7_begins 38 = .ok (.getfield 13, 3) := by decide +kernel
theorem dX7_begins_41 : decode cX7_begins 41 = .ok (.bipush 10, 2) := by decide +kernel
theorem dX7_begins_43 : decode cX7_begins 43 = .ok (.iconst 2, 1) := by decide +kernel
theorem dX7_begins_44 : decode cX7_begins 44 = .ok (.iastore, 1) := by decide +kernel
theorem dX7_begins_45 : decode cX7_begins 45 = .ok (.aload_n 0, 1) := by decide +kernel
theorem dX7_begins_46 : decode cX7_begins 46 = .ok (.getfield 13, 3) := by decide +kernel
theorem dX7_begins_49 : decode cX7_begins 49 = .ok (.bipush 11, 2) := by decide +kernel
theorem dX7_begins_51 : decode cX7_begins 51 = .ok (.iconst 1, 1) := by decide +kernel
theorem dX7_begins_52 : decode cX7_begins 52 = .ok (.iastore, 1) := by decide +kernel
theorem dX7_begins_53 : decode cX7_begins 53 = .ok (.bipush 12, 2) := by decide +kernel
theorem dX7_begins_55 : decode cX7_begins 55 = .ok (.istore_n 1, 1) := by decide +kernel
theorem dX7_begins_56 : decode cX7_begins 56 = .ok (.iload_n 1, 1) := by decide +kernel
theorem dX7_begins_57 : decode cX7_begins 57 = .ok (.bipush 24, 2) := by decide +kernel
theorem dX7_begins_59 : decode cX7_begins 59 = .ok (.if_icmp .ge 16, 3) := by decide +kernel
theorem dX7_begins_62 : decode cX7_begins 62 = .ok (.aload_n 0, 1) := by decide +kernel
theorem dX7_begins_63 : decode cX7_begins 63 = .ok (.getfield 22, 3) := by decide +kernel
theorem dX7_begins_66 : decode cX7_begins 66 = .ok (.iload_n 1, 1) := by decide +kernel
theorem dX7_begins_67 : decode cX7_begins 67 = .ok (.iconst 0, 1) := by decide +kernel
theorem dX7_begins_68 : decode cX7_begins 68 = .ok (.iastore, 1) := by decide +kernel
theorem dX7_begins_69 : decode cX7_begins 69 = .ok (.iinc 1 1, 3) := by decide +kernel
theorem dX7_begins_72 : decode cX7_begins 72 = .ok (.goto (-16), 3) := by decide +kernel
theorem dX7_begins_75 : decode cX7_begins 75 = .ok (.return_, 1) := by decide +kernel
theorem dX7_bitOf_0 : decode cX7_bitOf 0 = .ok (.iload_n 0, 1) := by decide +kernel
theorem dX7_bitOf_1 : decode cX7_bitOf 1 = .ok (.bipush 103, 2) := by decide +kernel
theorem dX7_bitOf_3 : decode cX7_bitOf 3 = .ok (.if_icmp .ne 7, 3) := by decide +kernel
theorem dX7_bitOf_6 : decode cX7_bitOf 6 = .ok (.iconst 1, 1) := by decide +kernel
theorem dX7_bitOf_7 : decode cX7_bitOf 7 = .ok (.goto 14, 3) := by decide +kernel
theorem dX7_bitOf_10 : decode cX7_bitOf 10 = .ok (.iload_n 0, 1) := by decide +kernel
theorem dX7_bitOf_11 : decode cX7_bitOf 11 = .ok (.bipush 110, 2) := by decide +kernel
theorem dX7_bitOf_13 : decode cX7_bitOf 13 = .ok (.if_icmp .ne 7, 3) := by decide +kernel
theorem dX7_bitOf_16 : decode cX7_bitOf 16 = .ok (.iconst 2, 1) := by decide +kernel
theorem dX7_bitOf_17 : decode cX7_bitOf 17 = .ok (.goto 4, 3) := by decide +kernel
theorem dX7_bitOf_20 : decode cX7_bitOf 20 = .ok (.iconst 4, 1) := by decide +kernel
theorem dX7_bitOf_21 : decode cX7_bitOf 21 = .ok (.ireturn, 1) := by decide +kernel
theorem dX7_mayBegin_0 : decode cX7_mayBegin 0 = .ok (.aload_n 0, 1) := by decide +kernel
theorem dX7_mayBegin_1 : decode cX7_mayBegin 1 = .ok (.getfield 93, 3) := by decide +kernel
theorem dX7_mayBegin_4 : decode cX7_mayBegin 4 = .ok (.bipush 112, 2) := by decide +kernel
theorem dX7_mayBegin_6 : decode cX7_mayBegin 6 = .ok (.if_icmp .ne 15, 3) := by decide +kernel
theorem dX7_mayBegin_9 : decode cX7_mayBegin 9 = .ok (.iload_n 1, 1) := by decide +kernel
theorem dX7_mayBegin_10 : decode cX7_mayBegin 10 = .ok (.ifCond .ne 7, 3) := by decide +kernel
theorem dX7_mayBegin_13 : decode cX7_mayBegin 13 = .ok (.iconst 1, 1) := by decide +kernel
theorem dX7_mayBegin_14 : decode cX7_mayBegin 14 = .ok (.goto 65, 3) := by decide +kernel
theorem dX7_mayBegin_17 : decode cX7_mayBegin 17 = .ok (.iconst 0, 1) := by decide +kernel
theorem dX7_mayBegin_18 : decode cX7_mayBegin 18 = .ok (.goto 61, 3) := by decide +kernel
theorem dX7_mayBegin_21 : decode cX7_mayBegin 21 = .ok (.aload_n 0, 1) := by decide +kernel
theorem dX7_mayBegin_22 : decode cX7_mayBegin 22 = .ok (.getfield 93, 3) := by decide +kernel
theorem dX7_mayBegin_25 : decode cX7_mayBegin 25 = .ok (.bipush 114, 2) := by decide +kernel
theorem dX7_mayBegin_27 : decode cX7_mayBegin 27 = .ok (.if_icmp .ne 23, 3) := by decide +kernel
theorem dX7_mayBegin_30 : decode cX7_mayBegin 30 = .ok (.aload_n 0, 1) := by decide +kernel
theorem dX7_mayBegin_31 : decode cX7_mayBegin 31 = .ok (.getfield 13, 3) := by decide +kernel
theorem dX7_mayBegin_34 : decode cX7_mayBegin 34 = .ok (.bipush 7, 2) := by decide +kernel
theorem dX7_mayBegin_36 : decode cX7_mayBegin 36 = .ok (.iaload, 1) := by decide +kernel
theorem dX7_mayBegin_37 : decode cX7_mayBegin 37 = .ok (.bipush 12, 2) := by decide +kernel
theorem dX7_mayBegin_39 : decode cX7_mayBegin 39 = .ok (.if_icmp .ge 7, 3) := by decide +kernel
theorem dX7_mayBegin_42 : decode cX7_mayBegin 42 = .ok (.iconst 1, 1) := by decide +kernel
theorem dX7_mayBegin_43 : decode cX7_mayBegin 43 = .ok (.goto 36, 3) := by decide +kernel
theorem dX7_mayBegin_46 : decode cX7_mayBegin 46 = .ok (.iconst 0, 1) := by decide +kernel
theorem dX7_mayBegin_47 : decode cX7_mayBegin 47 = .ok (.goto 32, 3) := by decide +kernel
theorem dX7_mayBegin_50 : decode cX7_mayBegin 50 = .ok (.aload_n 0, 1) := by decide +kernel
theorem dX7_mayBegin_51 : decode cX7_mayBegin 51 = .ok (.getfield 93, 3) := by decide +kernel
theorem dX7_mayBegin_54 : decode cX7_mayBegin 54 = .ok (.bipush 115, 2) := by decide +kernel
theorem dX7_mayBegin_56 : decode cX7_mayBegin 56 = .ok (.if_icmp .eq 18, 3) := by decide +kernel
theorem dX7_mayBegin_59 : decode cX7_mayBegin 59 = .ok (.aload_n 0, 1) := by decide +kernel
theorem dX7_mayBegin_60 : decode cX7_mayBegin 60 = .ok (.getfield 114, 3) := by decide +kernel
theorem dX7_mayBegin_63 : decode cX7_mayBegin 63 = .ok (.aload_n 0, 1) := by decide +kernel
theorem dX7_mayBegin_64 : decode cX7_mayBegin 64 = .ok (.getfield 93, 3) := by decide +kernel
theorem dX7_mayBegin_67 : decode cX7_mayBegin 67 = .ok (.invokestatic 117, 3) := by decide +kernel
theorem dX7_mayBegin_70 : decode cX7_mayBegin 70 = .ok (.iand, 1) := by decide +kernel
theorem dX7_mayBegin_71 : decode cX7_mayBegin 71 = .ok (.ifCond .ne 7, 3) := by decide +kernel
theorem dX7_mayBegin_74 : decode cX7_mayBegin 74 = .ok (.iconst 1, 1) := by decide +kernel
theorem dX7_mayBegin_75 : decode cX7_mayBegin 75 = .ok (.goto 4, 3) := by decide +kernel
theorem dX7_mayBegin_78 : decode cX7_mayBegin 78 = .ok (.iconst 0, 1) := by decide +kernel
theorem dX7_mayBegin_79 : decode cX7_mayBegin 79 = .ok (.ireturn, 1) := by decide +kernel
theorem dX7_readsItem_0 : decode cX7_readsItem 0 = .ok (.aload_n 0, 1) := by decide +kernel
theorem dX7_readsItem_1 : decode cX7_readsItem 1 = .ok (.getfield 13, 3) := by decide +kernel
theorem dX7_readsItem_4 : decode cX7_readsItem 4 = .ok (.bipush 6, 2) := by decide +kernel
theorem dX7_readsItem_6 : decode cX7_readsItem 6 = .ok (.iaload, 1) := by decide +kernel
theorem dX7_readsItem_7 : decode cX7_readsItem 7 = .ok (.iconst 1, 1) := by decide +kernel
theorem dX7_readsItem_8 : decode cX7_readsItem 8 = .ok (.isub, 1) := by decide +kernel
theorem dX7_readsItem_9 : decode cX7_readsItem 9 = .ok (.istore_n 2, 1) := by decide +kernel
theorem dX7_readsItem_10 : decode cX7_readsItem 10 = .ok (.aload_n 0, 1) := by decide +kernel
theorem dX7_readsItem_11 : decode cX7_readsItem 11 = .ok (.getfield 13, 3) := by decide +kernel
theorem dX7_readsItem_14 : decode cX7_readsItem 14 = .ok (.bipush 7, 2) := by decide +kernel
theorem dX7_readsItem_16 : decode cX7_readsItem 16 = .ok (.iaload, 1) := by decide +kernel
theorem dX7_readsItem_17 : decode cX7_readsItem 17 = .ok (.istore_n 3, 1) := by decide +kernel
theorem dX7_readsItem_18 : decode cX7_readsItem 18 = .ok (.iload_n 1, 1) := by decide +kernel
theorem dX7_readsItem_19 : decode cX7_readsItem 19 = .ok (.bipush 112, 2) := by decide +kernel
theorem dX7_readsItem_21 : decode cX7_readsItem 21 = .ok (.if_icmp .ne 20, 3) := by decide +kernel
theorem dX7_readsItem_24 : decode cX7_readsItem 24 = .ok (.aload_n 0, 1) := by decide +kernel
theorem dX7_readsItem_25 : decode cX7_readsItem 25 = .ok (.getfield 13, 3) := by decide +kernel
theorem dX7_readsItem_28 : decode cX7_readsItem 28 = .ok (.bipush 6, 2) := by decide +kernel
theorem dX7_readsItem_30 : decode cX7_readsItem 30 = .ok (.aload_n 0, 1) := by decide +kernel
theorem dX7_readsItem_31 : decode cX7_readsItem 31 = .ok (.iconst 2, 1) := by decide +kernel
theorem dX7_readsItem_32 : decode cX7_readsItem 32 = .ok (.bipush 8, 2) := by decide +kernel
theorem dX7_readsItem_34 : decode cX7_readsItem 34 = .ok (.invokevirtual 120, 3) := by decide +kernel
theorem dX7_readsItem_37 : decode cX7_readsItem 37 = .ok (.iastore, 1) := by decide +kernel
theorem dX7_readsItem_38 : decode cX7_readsItem 38 = .ok (.goto 239, 3) := by decide +kernel
theorem dX7_readsItem_41 : decode cX7_readsItem 41 = .ok (.iload_n 1, 1) := by decide +kernel
theorem dX7_readsItem_42 : decode cX7_readsItem 42 = .ok (.bipush 114, 2) := by decide +kernel
theorem dX7_readsItem_44 : decode cX7_readsItem 44 = .ok (.if_icmp .ne 77, 3) := by decide +kernel
theorem dX7_readsItem_47 : decode cX7_readsItem 47 = .ok (.aload_n 0, 1) := by decide +kernel
theorem dX7_readsItem_48 : decode cX7_readsItem 48 = .ok (.getfield 16, 3) := by decide +kernel
theorem dX7_readsItem_51 : decode cX7_readsItem 51 = .ok (.bipush 24, 2) := by decide +kernel
theorem dX7_readsItem_53 : decode cX7_readsItem 53 = .ok (.iconst 2, 1) := by decide +kernel
theorem dX7_readsItem_54 : decode cX7_readsItem 54 = .ok (.iload_n 3, 1) := by decide +kernel
theorem dX7_readsItem_55 : decode cX7_readsItem 55 = .ok (.imul, 1) := by decide +kernel
theorem dX7_readsItem_56 : decode cX7_readsItem 56 = .ok (.iadd, 1) := by decide +kernel
theorem dX7_readsItem_57 : decode cX7_readsItem 57 = .ok (.aload_n 0, 1) := by decide +kernel
theorem dX7_readsItem_58 : decode cX7_readsItem 58 = .ok (.iconst 0, 1) := by decide +kernel
theorem dX7_readsItem_59 : decode cX7_readsItem 59 = .ok (.iload_n 2, 1) := by decide +kernel
theorem dX7_readsItem_60 : decode cX7_readsItem 60 = .ok (.invokevirtual 120, 3) := by decide +kernel
theorem dX7_readsItem_63 : decode cX7_readsItem 63 = .ok (.iastore, 1) := by decide +kernel
theorem dX7_readsItem_64 : decode cX7_readsItem 64 = .ok (.aload_n 0, 1) := by decide +kernel
theorem dX7_readsItem_65 : decode cX7_readsItem 65 = .ok (.getfield 16, 3) := by decide +kernel
theorem dX7_readsItem_68 : decode cX7_readsItem 68 = .ok (.bipush 25, 2) := by decide +kernel
theorem dX7_readsItem_70 : decode cX7_readsItem 70 = .ok (.iconst 2, 1) := by decide +kernel
theorem dX7_readsItem_71 : decode cX7_readsItem 71 = .ok (.iload_n 3, 1) := by decide +kernel
theorem dX7_readsItem_72 : decode cX7_readsItem 72 = .ok (.imul, 1) := by decide +kernel
theorem dX7_readsItem_73 : decode cX7_readsItem 73 = .ok (.iadd, 1) := by decide +kernel
theorem dX7_readsItem_74 : decode cX7_readsItem 74 = .ok (.aload_n 0, 1) := by decide +kernel
theorem dX7_readsItem_75 : decode cX7_readsItem 75 = .ok (.iload_n 2, 1) := by decide +kernel
theorem dX7_readsItem_76 : decode cX7_readsItem 76 = .ok (.aload_n 0, 1) := by decide +kernel
theorem dX7_readsItem_77 : decode cX7_readsItem 77 = .ok (.getfield 16, 3) := by decide +kernel
theorem dX7_readsItem_80 : decode cX7_readsItem 80 = .ok (.bipush 24, 2) := by decide +kernel
theorem dX7_readsItem_82 : decode cX7_readsItem 82 = .ok (.iconst 2, 1) := by decide +kernel
theorem dX7_readsItem_83 : decode cX7_readsItem 83 = .ok (.iload_n 3, 1) := by decide +kernel
theorem dX7_readsItem_84 : decode cX7_readsItem 84 = .ok (.imul, 1) := by decide +kernel
theorem dX7_readsItem_85 : decode cX7_readsItem 85 = .ok (.iadd, 1) := by decide +kernel
theorem dX7_readsItem_86 : decode cX7_readsItem 86 = .ok (.iaload, 1) := by decide +kernel
theorem dX7_readsItem_87 : decode cX7_readsItem 87 = .ok (.invokevirtual 124, 3) := by decide +kernel
theorem dX7_readsItem_90 : decode cX7_readsItem 90 = .ok (.iastore, 1) := by decide +kernel
theorem dX7_readsItem_91 : decode cX7_readsItem 91 = .ok (.aload_n 0, 1) := by decide +kernel
theorem dX7_readsItem_92 : decode cX7_readsItem 92 = .ok (.getfield 19, 3) := by decide +kernel
theorem dX7_readsItem_95 : decode cX7_readsItem 95 = .ok (.bipush 12, 2) := by decide +kernel
theorem dX7_readsItem_97 : decode cX7_readsItem 97 = .ok (.iload_n 3, 1) := by decide +kernel
theorem dX7_readsItem_98 : decode cX7_readsItem 98 = .ok (.iadd, 1) := by decide +kernel
theorem dX7_readsItem_99 : decode cX7_readsItem 99 = .ok (.aload_n 0, 1) := by decide +kernel
theorem dX7_readsItem_100 : decode cX7_readsItem 100 = .ok (.iconst 1, 1) := by decide +kernel
theorem dX7_readsItem_101 : decode cX7_readsItem 101 = .ok (.bipush 60, 2) := by decide +kernel
theorem dX7_readsItem_103 : decode cX7_readsItem 103 = .ok (.invokevirtual 120, 3) := by decide +kernel
theorem dX7_readsItem_106 : decode cX7_readsItem 106 = .ok (.iastore, 1) := by decide +kernel
theorem dX7_readsItem_107 : decode cX7_readsItem 107 = .ok (.aload_n 0, 1) := by decide +kernel
theorem dX7_readsItem_108 : decode cX7_readsItem 108 = .ok (.getfield 13, 3) := by decide +kernel
theorem dX7_readsItem_111 : decode cX7_readsItem 111 = .ok (.bipush 7, 2) := by decide +kernel
theorem dX7_readsItem_113 : decode cX7_readsItem 113 = .ok (.dup2, 1) := by decide +kernel
theorem dX7_readsItem_114 : decode cX7_readsItem 114 = .ok (.iaload, 1) := by decide +kernel
theorem dX7_readsItem_115 : decode cX7_readsItem 115 = .ok (.iconst 1, 1) := by decide +kernel
theorem dX7_readsItem_116 : decode cX7_readsItem 116 = .ok (.iadd, 1) := by decide +kernel
theorem dX7_readsItem_117 : decode cX7_readsItem 117 = .ok (.iastore, 1) := by decide +kernel
theorem dX7_readsItem_118 : decode cX7_readsItem 118 = .ok (.goto 159, 3) := by decide +kernel
theorem dX7_readsItem_121 : decode cX7_readsItem 121 = .ok (.iload_n 1, 1) := by decide +kernel
theorem dX7_readsItem_122 : decode cX7_readsItem 122 = .ok (.bipush 115, 2) := by decide +kernel
theorem dX7_readsItem_124 : decode cX7_readsItem 124 = .ok (.if_icmp .ne 68, 3) := by decide +kernel
theorem dX7_readsItem_127 : decode cX7_readsItem 127 = .ok (.aload_n 0, 1) := by decide +kernel
theorem dX7_readsItem_128 : decode cX7_readsItem 128 = .ok (.iconst 0, 1) := by decide +kernel
theorem dX7_readsItem_129 : decode cX7_readsItem 129 = .ok (.iload_n 3, 1) := by decide +kernel
theorem dX7_readsItem_130 : decode cX7_readsItem 130 = .ok (.iconst 1, 1) := by decide +kernel
theorem dX7_readsItem_131 : decode cX7_readsItem 131 = .ok (.isub, 1) := by decide +kernel
theorem dX7_readsItem_132 : decode cX7_readsItem 132 = .ok (.invokevirtual 120, 3) := by decide +kernel
theorem dX7_readsItem_135 : decode cX7_readsItem 135 = .ok (.istore 4, 2) := by decide +kernel
theorem dX7_readsItem_137 : decode cX7_readsItem 137 = .ok (.aload_n 0, 1) := by decide +kernel
theorem dX7_readsItem_138 : decode cX7_readsItem 138 = .ok (.iload_n 3, 1) := by decide +kernel
theorem dX7_readsItem_139 : decode cX7_readsItem 139 = .ok (.iconst 1, 1) := by decide +kernel
theorem dX7_readsItem_140 : decode cX7_readsItem 140 = .ok (.isub, 1) := by decide +kernel
theorem dX7_readsItem_141 : decode cX7_readsItem 141 = .ok (.iload 4, 2) := by decide +kernel
theorem dX7_readsItem_143 : decode cX7_readsItem 143 = .ok (.invokevirtual 124, 3) := by decide +kernel
theorem dX7_readsItem_146 : decode cX7_readsItem 146 = .ok (.istore 5, 2) := by decide +kernel
theorem dX7_readsItem_148 : decode cX7_readsItem 148 = .ok (.aload_n 0, 1) := by decide +kernel
theorem dX7_readsItem_149 : decode cX7_readsItem 149 = .ok (.invokevirtual 103, 3) := by decide +kernel
theorem dX7_readsItem_152 : decode cX7_readsItem 152 = .ok (.ifCond .eq 37, 3) := by decide +kernel
theorem dX7_readsItem_155 : decode cX7_readsItem 155 = .ok (.aload_n 0, 1) := by decide +kernel
theorem dX7_readsItem_156 : decode cX7_readsItem 156 = .ok (.getfield 22, 3) := by decide +kernel
theorem dX7_readsItem_159 : decode cX7_readsItem 159 = .ok (.bipush 12, 2) := by decide +kernel
theorem dX7_readsItem_161 : decode cX7_readsItem 161 = .ok (.iload 4, 2) := by decide +kernel
theorem dX7_readsItem_163 : decode cX7_readsItem 163 = .ok (.iadd, 1) := by decide +kernel
theorem dX7_readsItem_164 : decode cX7_readsItem 164 = .ok (.dup2, 1) := by decide +kernel
theorem dX7_readsItem_165 : decode cX7_readsItem 165 = .ok (.iaload, 1) := by decide +kernel
theorem dX7_readsItem_166 : decode cX7_readsItem 166 = .ok (.iconst 1, 1) := by decide +kernel
theorem dX7_readsItem_167 : decode cX7_readsItem 167 = .ok (.iload 5, 2) := by decide +kernel
theorem dX7_readsItem_169 : decode cX7_readsItem 169 = .ok (.ishl, 1) := by decide +kernel
theorem dX7_readsItem_170 : decode cX7_readsItem 170 = .ok (.ior, 1) := by decide +kernel
theorem dX7_readsItem_171 : decode cX7_readsItem 171 = .ok (.iastore, 1) := by decide +kernel
theorem dX7_readsItem_172 : decode cX7_readsItem 172 = .ok (.aload_n 0, 1) := by decide +kernel
theorem dX7_readsItem_173 : decode cX7_readsItem 173 = .ok (.getfield 22, 3) := by decide +kernel
theorem dX7_readsItem_176 : decode cX7_readsItem 176 = .ok (.bipush 12, 2) := by decide +kernel
theorem dX7_readsItem_178 : decode cX7_readsItem 178 = .ok (.iload 5, 2) := by decide +kernel
theorem dX7_readsItem_180 : decode cX7_readsItem 180 = .ok (.iadd, 1) := by decide +kernel
theorem dX7_readsItem_181 : decode cX7_readsItem 181 = .ok (.dup2, 1) := by decide +kernel
theorem dX7_readsItem_182 : decode cX7_readsItem 182 = .ok (.iaload, 1) := by decide +kernel
theorem dX7_readsItem_183 : decode cX7_readsItem 183 = .ok (.iconst 1, 1) := by decide +kernel
theorem dX7_readsItem_184 : decode cX7_readsItem 184 = .ok (.iload 4, 2) := by decide +kernel
theorem dX7_readsItem_186 : decode cX7_readsItem 186 = .ok (.ishl, 1) := by decide +kernel
theorem dX7_readsItem_187 : decode cX7_readsItem 187 = .ok (.ior, 1) := by decide +kernel
theorem dX7_readsItem_188 : decode cX7_readsItem 188 = .ok (.iastore, 1) := by decide +kernel
theorem dX7_readsItem_189 : decode cX7_readsItem 189 = .ok (.goto 88, 3) := by decide +kernel
theorem dX7_readsItem_192 : decode cX7_readsItem 192 = .ok (.iload_n 1, 1) := by decide +kernel
theorem dX7_readsItem_193 : decode cX7_readsItem 193 = .ok (.bipush 103, 2) := by decide +kernel
theorem dX7_readsItem_195 : decode cX7_readsItem 195 = .ok (.if_icmp .ne 32, 3) := by decide +kernel
theorem dX7_readsItem_198 : decode cX7_readsItem 198 = .ok (.aload_n 0, 1) := by decide +kernel
theorem dX7_readsItem_199 : decode cX7_readsItem 199 = .ok (.getfield 13, 3) := by decide +kernel
theorem dX7_readsItem_202 : decode cX7_readsItem 202 = .ok (.bipush 8, 2) := by decide +kernel
theorem dX7_readsItem_204 : decode cX7_readsItem 204 = .ok (.aload_n 0, 1) := by decide +kernel
theorem dX7_readsItem_205 : decode cX7_readsItem 205 = .ok (.iconst 0, 1) := by decide +kernel
theorem dX7_readsItem_206 : decode cX7_readsItem 206 = .ok (.iload_n 2, 1) := by decide +kernel
theorem dX7_readsItem_207 : decode cX7_readsItem 207 = .ok (.invokevirtual 120, 3) := by decide +kernel
theorem dX7_readsItem_210 : decode cX7_readsItem 210 = .ok (.iastore, 1) := by decide +kernel
theorem dX7_readsItem_211 : decode cX7_readsItem 211 = .ok (.aload_n 0, 1) := by decide +kernel
theorem dX7_readsItem_212 : decode cX7_readsItem 212 = .ok (.getfield 13, 3) := by decide +kernel
theorem dX7_readsItem_215 : decode cX7_readsItem 215 = .ok (.bipush 9, 2) := by decide +kernel
theorem dX7_readsItem_217 : decode cX7_readsItem 217 = .ok (.aload_n 0, 1) := by decide +kernel
theorem dX7_readsItem_218 : decode cX7_readsItem 218 = .ok (.iconst 0, 1) := by decide +kernel
theorem dX7_readsItem_219 : decode cX7_readsItem 219 = .ok (.iload_n 2, 1) := by decide +kernel
theorem dX7_readsItem_220 : decode cX7_readsItem 220 = .ok (.invokevirtual 120, 3) := by decide +kernel
theorem dX7_readsItem_223 : decode cX7_readsItem 223 = .ok (.iastore, 1) := by decide +kernel
theorem dX7_readsItem_224 : decode cX7_readsItem 224 = .ok (.goto 40, 3) := by decide +kernel
theorem dX7_readsItem_227 : decode cX7_readsItem 227 = .ok (.iload_n 1, 1) := by decide +kernel
theorem dX7_readsItem_228 : decode cX7_readsItem 228 = .ok (.bipush 110, 2) := by decide +kernel
theorem dX7_readsItem_230 : decode cX7_readsItem 230 = .ok (.if_icmp .ne 20, 3) := by decide +kernel
theorem dX7_readsItem_233 : decode cX7_readsItem 233 = .ok (.aload_n 0, 1) := by decide +kernel
theorem dX7_readsItem_234 : decode cX7_readsItem 234 = .ok (.getfield 13, 3) := by decide +kernel
theorem dX7_readsItem_237 : decode cX7_readsItem 237 = .ok (.bipush 10, 2) := by decide +kernel
theorem dX7_readsItem_239 : decode cX7_readsItem 239 = .ok (.aload_n 0, 1) := by decide +kernel
theorem dX7_readsItem_240 : decode cX7_readsItem 240 = .ok (.iconst 0, 1) := by decide +kernel
theorem dX7_readsItem_241 : decode cX7_readsItem 241 = .ok (.bipush 20, 2) := by decide +kernel
theorem dX7_readsItem_243 : decode cX7_readsItem 243 = .ok (.invokevirtual 120, 3) := by decide +kernel
theorem dX7_readsItem_246 : decode cX7_readsItem 246 = .ok (.iastore, 1) := by decide +kernel
theorem dX7_readsItem_247 : decode cX7_readsItem 247 = .ok (.goto 17, 3) := by decide +kernel
theorem dX7_readsItem_250 : decode cX7_readsItem 250 = .ok (.aload_n 0, 1) := by decide +kernel
theorem dX7_readsItem_251 : decode cX7_readsItem 251 = .ok (.getfield 13, 3) := by decide +kernel
theorem dX7_readsItem_254 : decode cX7_readsItem 254 = .ok (.bipush 11, 2) := by decide +kernel
theorem dX7_readsItem_256 : decode cX7_readsItem 256 = .ok (.aload_n 0, 1) := by decide +kernel
theorem dX7_readsItem_257 : decode cX7_readsItem 257 = .ok (.iconst 0, 1) := by decide +kernel
theorem dX7_readsItem_258 : decode cX7_readsItem 258 = .ok (.bipush 9, 2) := by decide +kernel
theorem dX7_readsItem_260 : decode cX7_readsItem 260 = .ok (.invokevirtual 120, 3) := by decide +kernel
theorem dX7_readsItem_263 : decode cX7_readsItem 263 = .ok (.iastore, 1) := by decide +kernel
theorem dX7_readsItem_264 : decode cX7_readsItem 264 = .ok (.aload_n 0, 1) := by decide +kernel
theorem dX7_readsItem_265 : decode cX7_readsItem 265 = .ok (.dup, 1) := by decide +kernel
theorem dX7_readsItem_266 : decode cX7_readsItem 266 = .ok (.getfield 114, 3) := by decide +kernel
theorem dX7_readsItem_269 : decode cX7_readsItem 269 = .ok (.iload_n 1, 1) := by decide +kernel
theorem dX7_readsItem_270 : decode cX7_readsItem 270 = .ok (.invokestatic 117, 3) := by decide +kernel
theorem dX7_readsItem_273 : decode cX7_readsItem 273 = .ok (.ior, 1) := by decide +kernel
theorem dX7_readsItem_274 : decode cX7_readsItem 274 = .ok (.putfield 114, 3) := by decide +kernel
theorem dX7_readsItem_277 : decode cX7_readsItem 277 = .ok (.return_, 1) := by decide +kernel
theorem dX7_town_0 : decode cX7_town 0 = .ok (.aload_n 0, 1) := by decide +kernel
theorem dX7_town_1 : decode cX7_town 1 = .ok (.iconst 0, 1) := by decide +kernel
theorem dX7_town_2 : decode cX7_town 2 = .ok (.putfield 69, 3) := by decide +kernel
theorem dX7_town_5 : decode cX7_town 5 = .ok (.aload_n 0, 1) := by decide +kernel
theorem dX7_town_6 : decode cX7_town 6 = .ok (.iconst (-1), 1) := by decide +kernel
theorem dX7_town_7 : decode cX7_town 7 = .ok (.putfield 100, 3) := by decide +kernel
theorem dX7_town_10 : decode cX7_town 10 = .ok (.aload_n 0, 1) := by decide +kernel
theorem dX7_town_11 : decode cX7_town 11 = .ok (.iconst 0, 1) := by decide +kernel
theorem dX7_town_12 : decode cX7_town 12 = .ok (.putfield 80, 3) := by decide +kernel
theorem dX7_town_15 : decode cX7_town 15 = .ok (.aload_n 0, 1) := by decide +kernel
theorem dX7_town_16 : decode cX7_town 16 = .ok (.invokevirtual 63, 3) := by decide +kernel
theorem dX7_town_19 : decode cX7_town 19 = .ok (.iconst 0, 1) := by decide +kernel
theorem dX7_town_20 : decode cX7_town 20 = .ok (.istore_n 1, 1) := by decide +kernel
theorem dX7_town_21 : decode cX7_town 21 = .ok (.aload_n 0, 1) := by decide +kernel
theorem dX7_town_22 : decode cX7_town 22 = .ok (.invokevirtual 107, 3) := by decide +kernel
theorem dX7_town_25 : decode cX7_town 25 = .ok (.aload_n 0, 1) := by decide +kernel
theorem dX7_town_26 : decode cX7_town 26 = .ok (.invokevirtual 103, 3) := by decide +kernel
theorem dX7_town_29 : decode cX7_town 29 = .ok (.ifCond .eq 72, 3) := by decide +kernel
theorem dX7_town_32 : decode cX7_town 32 = .ok (.aload_n 0, 1) := by decide +kernel
theorem dX7_town_33 : decode cX7_town 33 = .ok (.getfield 90, 3) := by decide +kernel
theorem dX7_town_36 : decode cX7_town 36 = .ok (.ifCond .eq 65, 3) := by decide +kernel
theorem dX7_town_39 : decode cX7_town 39 = .ok (.aload_n 0, 1) := by decide +kernel
theorem dX7_town_40 : decode cX7_town 40 = .ok (.aload_n 0, 1) := by decide +kernel
theorem dX7_town_41 : decode cX7_town 41 = .ok (.getfield 90, 3) := by decide +kernel
theorem dX7_town_44 : decode cX7_town 44 = .ok (.iconst 1, 1) := by decide +kernel
theorem dX7_town_45 : decode cX7_town 45 = .ok (.if_icmp .ne 15, 3) := by decide +kernel
theorem dX7_town_48 : decode cX7_town 48 = .ok (.aload_n 0, 1) := by decide +kernel
theorem dX7_town_49 : decode cX7_town 49 = .ok (.iload_n 1, 1) := by decide +kernel
theorem dX7_town_50 : decode cX7_town 50 = .ok (.invokevirtual 127, 3) := by decide +kernel
theorem dX7_town_53 : decode cX7_town 53 = .ok (.ifCond .eq 7, 3) := by decide +kernel
theorem dX7_town_56 : decode cX7_town 56 = .ok (.iconst 1, 1) := by decide +kernel
theorem dX7_town_57 : decode cX7_town 57 = .ok (.goto 4, 3) := by decide +kernel
theorem dX7_town_60 : decode cX7_town 60 = .ok (.iconst 0, 1) := by decide +kernel
theorem dX7_town_61 : decode cX7_town 61 = .ok (.invokevirtual 110, 3) := by decide +kernel
theorem dX7_town_64 : decode cX7_town 64 = .ok (.istore_n 2, 1) := by decide +kernel
theorem dX7_town_65 : decode cX7_town 65 = .ok (.aload_n 0, 1) := by decide +kernel
theorem dX7_town_66 : decode cX7_town 66 = .ok (.invokevirtual 103, 3) := by decide +kernel
theorem dX7_town_69 : decode cX7_town 69 = .ok (.ifCond .eq 8, 3) := by decide +kernel
theorem dX7_town_72 : decode cX7_town 72 = .ok (.aload_n 0, 1) := by decide +kernel
theorem dX7_town_73 : decode cX7_town 73 = .ok (.iload_n 2, 1) := by decide +kernel
theorem dX7_town_74 : decode cX7_town 74 = .ok (.invokevirtual 130, 3) := by decide +kernel
theorem dX7_town_77 : decode cX7_town 77 = .ok (.aload_n 0, 1) := by decide +kernel
theorem dX7_town_78 : decode cX7_town 78 = .ok (.aload_n 0, 1) := by decide +kernel
theorem dX7_town_79 : decode cX7_town 79 = .ok (.getfield 90, 3) := by decide +kernel
theorem dX7_town_82 : decode cX7_town 82 = .ok (.iconst 3, 1) := by decide +kernel
theorem dX7_town_83 : decode cX7_town 83 = .ok (.if_icmp .ne 7, 3) := by decide +kernel
theorem dX7_town_86 : decode cX7_town 86 = .ok (.iconst 1, 1) := by decide +kernel
theorem dX7_town_87 : decode cX7_town 87 = .ok (.goto 4, 3) := by decide +kernel
theorem dX7_town_90 : decode cX7_town 90 = .ok (.iconst 0, 1) := by decide +kernel
theorem dX7_town_91 : decode cX7_town 91 = .ok (.invokevirtual 110, 3) := by decide +kernel
theorem dX7_town_94 : decode cX7_town 94 = .ok (.pop, 1) := by decide +kernel
theorem dX7_town_95 : decode cX7_town 95 = .ok (.iinc 1 1, 3) := by decide +kernel
theorem dX7_town_98 : decode cX7_town 98 = .ok (.goto (-73), 3) := by decide +kernel
theorem dX7_town_101 : decode cX7_town 101 = .ok (.aload_n 0, 1) := by decide +kernel
theorem dX7_town_102 : decode cX7_town 102 = .ok (.invokevirtual 103, 3) := by decide +kernel
theorem dX7_town_105 : decode cX7_town 105 = .ok (.ifCond .ne 11, 3) := by decide +kernel
theorem dX7_town_108 : decode cX7_town 108 = .ok (.bipush (-10), 2) := by decide +kernel
theorem dX7_town_110 : decode cX7_town 110 = .ok (.aload_n 0, 1) := by decide +kernel
theorem dX7_town_111 : decode cX7_town 111 = .ok (.getfield 100, 3) := by decide +kernel
theorem dX7_town_114 : decode cX7_town 114 = .ok (.isub, 1) := by decide +kernel
theorem dX7_town_115 : decode cX7_town 115 = .ok (.ireturn, 1) := by decide +kernel
theorem dX7_town_116 : decode cX7_town 116 = .ok (.aload_n 0, 1) := by decide +kernel
theorem dX7_town_117 : decode cX7_town 117 = .ok (.invokevirtual 66, 3) := by decide +kernel
theorem dX7_town_120 : decode cX7_town 120 = .ok (.iload_n 1, 1) := by decide +kernel
theorem dX7_town_121 : decode cX7_town 121 = .ok (.ireturn, 1) := by decide +kernel
theorem dX7_settles_0 : decode cX7_settles 0 = .ok (.iconst 0, 1) := by decide +kernel
theorem dX7_settles_1 : decode cX7_settles 1 = .ok (.istore_n 1, 1) := by decide +kernel
theorem dX7_settles_2 : decode cX7_settles 2 = .ok (.iload_n 1, 1) := by decide +kernel
theorem dX7_settles_3 : decode cX7_settles 3 = .ok (.bipush 6, 2) := by decide +kernel
theorem dX7_settles_5 : decode cX7_settles 5 = .ok (.if_icmp .ge 24, 3) := by decide +kernel
theorem dX7_settles_8 : decode cX7_settles 8 = .ok (.aload_n 0, 1) := by decide +kernel
theorem dX7_settles_9 : decode cX7_settles 9 = .ok (.getfield 13, 3) := by decide +kernel
theorem dX7_settles_12 : decode cX7_settles 12 = .ok (.iload_n 1, 1) := by decide +kernel
theorem dX7_settles_13 : decode cX7_settles 13 = .ok (.aload_n 0, 1) := by decide +kernel
theorem dX7_settles_14 : decode cX7_settles 14 = .ok (.getfield 13, 3) := by decide +kernel
theorem dX7_settles_17 : decode cX7_settles 17 = .ok (.bipush 6, 2) := by decide +kernel
theorem dX7_settles_19 : decode cX7_settles 19 = .ok (.iload_n 1, 1) := by decide +kernel
theorem dX7_settles_20 : decode cX7_settles 20 = .ok (.iadd, 1) := by decide +kernel
theorem dX7_settles_21 : decode cX7_settles 21 = .ok (.iaload, 1) := by decide +kernel
theorem dX7_settles_22 : decode cX7_settles 22 = .ok (.iastore, 1) := by decide +kernel
theorem dX7_settles_23 : decode cX7_settles 23 = .ok (.iinc 1 1, 3) := by decide +kernel
theorem dX7_settles_26 : decode cX7_settles 26 = .ok (.goto (-24), 3) := by decide +kernel
theorem dX7_settles_29 : decode cX7_settles 29 = .ok (.iconst 0, 1) := by decide +kernel
theorem dX7_settles_30 : decode cX7_settles 30 = .ok (.istore_n 1, 1) := by decide +kernel
theorem dX7_settles_31 : decode cX7_settles 31 = .ok (.iload_n 1, 1) := by decide +kernel
theorem dX7_settles_32 : decode cX7_settles 32 = .ok (.bipush 12, 2) := by decide +kernel
theorem dX7_settles_34 : decode cX7_settles 34 = .ok (.if_icmp .ge 79, 3) := by decide +kernel
theorem dX7_settles_37 : decode cX7_settles 37 = .ok (.aload_n 0, 1) := by decide +kernel
theorem dX7_settles_38 : decode cX7_settles 38 = .ok (.getfield 16, 3) := by decide +kernel
theorem dX7_settles_41 : decode cX7_settles 41 = .ok (.iconst 2, 1) := by decide +kernel
theorem dX7_settles_42 : decode cX7_settles 42 = .ok (.iload_n 1, 1) := by decide +kernel
theorem dX7_settles_43 : decode cX7_settles 43 = .ok (.imul, 1) := by decide +kernel
theorem dX7_settles_44 : decode cX7_settles 44 = .ok (.aload_n 0, 1) := by decide +kernel
theorem dX7_settles_45 : decode cX7_settles 45 = .ok (.getfield 16, 3) := by decide +kernel
theorem dX7_settles_48 : decode cX7_settles 48 = .ok (.bipush 24, 2) := by decide +kernel
theorem dX7_settles_50 : decode cX7_settles 50 = .ok (.iconst 2, 1) := by decide +kernel
theorem dX7_settles_51 : decode cX7_settles 51 = .ok (.iload_n 1, 1) := by decide +kernel
theorem dX7_settles_52 : decode cX7_settles 52 = .ok (.imul, 1) := by decide +kernel
theorem dX7_settles_53 : decode cX7_settles 53 = .ok (.iadd, 1) := by decide +kernel
theorem dX7_settles_54 : decode cX7_settles 54 = .ok (.iaload, 1) := by decide +kernel
theorem dX7_settles_55 : decode cX7_settles 55 = .ok (.iastore, 1) := by decide +kernel
theorem dX7_settles_56 : decode cX7_settles 56 = .ok (.aload_n 0, 1) := by decide +kernel
theorem dX7_settles_57 : decode cX7_settles 57 = .ok (.getfield 16, 3) := by decide +kernel
theorem dX7_settles_60 : decode cX7_settles 60 = .ok (.iconst 2, 1) := by decide +kernel
theorem dX7_settles_61 : decode cX7_settles 61 = .ok (.iload_n 1, 1) := by decide +kernel
theorem dX7_settles_62 : decode cX7_settles 62 = .ok (.imul, 1) := by decide +kernel
theorem dX7_settles_63 : decode cX7_settles 63 = .ok (.iconst 1, 1) := by decide +kernel
theorem dX7_settles_64 : decode cX7_settles 64 = .ok (.iadd, 1) := by decide +kernel
theorem dX7_settles_65 : decode cX7_settles 65 = .ok (.aload_n 0, 1) := by decide +kernel
theorem dX7_settles_66 : decode cX7_settles 66 = .ok (.getfield 16, 3) := by decide +kernel
theorem dX7_settles_69 : decode cX7_settles 69 = .ok (.bipush 25, 2) := by decide +kernel
theorem dX7_settles_71 : decode cX7_settles 71 = .ok (.iconst 2, 1) := by decide +kernel
theorem dX7_settles_72 : decode cX7_settles 72 = .ok (.iload_n 1, 1) := by decide +kernel
theorem dX7_settles_73 : decode cX7_settles 73 = .ok (.imul, 1) := by decide +kernel
theorem dX7_settles_74 : decode cX7_settles 74 = .ok (.iadd, 1) := by decide +kernel
theorem dX7_settles_75 : decode cX7_settles 75 = .ok (.iaload, 1) := by decide +kernel
theorem dX7_settles_76 : decode cX7_settles 76 = .ok (.iastore, 1) := by decide +kernel
theorem dX7_settles_77 : decode cX7_settles 77 = .ok (.aload_n 0, 1) := by decide +kernel
theorem dX7_settles_78 : decode cX7_settles 78 = .ok (.getfield 19, 3) := by decide +kernel
theorem dX7_settles_81 : decode cX7_settles 81 = .ok (.iload_n 1, 1) := by decide +kernel
theorem dX7_settles_82 : decode cX7_settles 82 = .ok (.aload_n 0, 1) := by decide +kernel
theorem dX7_settles_83 : decode cX7_settles 83 = .ok (.getfield 19, 3) := by decide +kernel
theorem dX7_settles_86 : decode cX7_settles 86 = .ok (.bipush 12, 2) := by decide +kernel
theorem dX7_settles_88 : decode cX7_settles 88 = .ok (.iload_n 1, 1) := by decide +kernel
theorem dX7_settles_89 : decode cX7_settles 89 = .ok (.iadd, 1) := by decide +kernel
theorem dX7_settles_90 : decode cX7_settles 90 = .ok (.iaload, 1) := by decide +kernel
theorem dX7_settles_91 : decode cX7_settles 91 = .ok (.iastore, 1) := by decide +kernel
theorem dX7_settles_92 : decode cX7_settles 92 = .ok (.aload_n 0, 1) := by decide +kernel
theorem dX7_settles_93 : decode cX7_settles 93 = .ok (.getfield 22, 3) := by decide +kernel
theorem dX7_settles_96 : decode cX7_settles 96 = .ok (.iload_n 1, 1) := by decide +kernel
theorem dX7_settles_97 : decode cX7_settles 97 = .ok (.aload_n 0, 1) := by decide +kernel
theorem dX7_settles_98 : decode cX7_settles 98 = .ok (.getfield 22, 3) := by decide +kernel
theorem dX7_settles_101 : decode cX7_settles 101 = .ok (.bipush 12, 2) := by decide +kernel
theorem dX7_settles_103 : decode cX7_settles 103 = .ok (.iload_n 1, 1) := by decide +kernel
theorem dX7_settles_104 : decode cX7_settles 104 = .ok (.iadd, 1) := by decide +kernel
theorem dX7_settles_105 : decode cX7_settles 105 = .ok (.iaload, 1) := by decide +kernel
theorem dX7_settles_106 : decode cX7_settles 106 = .ok (.iastore, 1) := by decide +kernel
theorem dX7_settles_107 : decode cX7_settles 107 = .ok (.iinc 1 1, 3) := by decide +kernel
theorem dX7_settles_110 : decode cX7_settles 110 = .ok (.goto (-79), 3) := by decide +kernel
theorem dX7_settles_113 : decode cX7_settles 113 = .ok (.iconst 0, 1) := by decide +kernel
theorem dX7_settles_114 : decode cX7_settles 114 = .ok (.istore_n 1, 1) := by decide +kernel
theorem dX7_settles_115 : decode cX7_settles 115 = .ok (.iload_n 1, 1) := by decide +kernel
theorem dX7_settles_116 : decode cX7_settles 116 = .ok (.bipush 17, 2) := by decide +kernel
theorem dX7_settles_118 : decode cX7_settles 118 = .ok (.if_icmp .ge 16, 3) := by decide +kernel
theorem dX7_settles_121 : decode cX7_settles 121 = .ok (.aload_n 0, 1) := by decide +kernel
theorem dX7_settles_122 : decode cX7_settles 122 = .ok (.getfield 25, 3) := by decide +kernel
theorem dX7_settles_125 : decode cX7_settles 125 = .ok (.iload_n 1, 1) := by decide +kernel
theorem dX7_settles_126 : decode cX7_settles 126 = .ok (.iconst 0, 1) := by decide +kernel
theorem dX7_settles_127 : decode cX7_settles 127 = .ok (.iastore, 1) := by decide +kernel
theorem dX7_settles_128 : decode cX7_settles 128 = .ok (.iinc 1 1, 3) := by decide +kernel
theorem dX7_settles_131 : decode cX7_settles 131 = .ok (.goto (-16), 3) := by decide +kernel
theorem dX7_settles_134 : decode cX7_settles 134 = .ok (.aload_n 0, 1) := by decide +kernel
theorem dX7_settles_135 : decode cX7_settles 135 = .ok (.getfield 25, 3) := by decide +kernel
theorem dX7_settles_138 : decode cX7_settles 138 = .ok (.iconst 0, 1) := by decide +kernel
theorem dX7_settles_139 : decode cX7_settles 139 = .ok (.aload_n 0, 1) := by decide +kernel
theorem dX7_settles_140 : decode cX7_settles 140 = .ok (.getfield 13, 3) := by decide +kernel
theorem dX7_settles_143 : decode cX7_settles 143 = .ok (.iconst 2, 1) := by decide +kernel
theorem dX7_settles_144 : decode cX7_settles 144 = .ok (.iaload, 1) := by decide +kernel
theorem dX7_settles_145 : decode cX7_settles 145 = .ok (.iastore, 1) := by decide +kernel
theorem dX7_settles_146 : decode cX7_settles 146 = .ok (.aload_n 0, 1) := by decide +kernel
theorem dX7_settles_147 : decode cX7_settles 147 = .ok (.iconst 0, 1) := by decide +kernel
theorem dX7_settles_148 : decode cX7_settles 148 = .ok (.putfield 77, 3) := by decide +kernel
theorem dX7_settles_151 : decode cX7_settles 151 = .ok (.aload_n 0, 1) := by decide +kernel
theorem dX7_settles_152 : decode cX7_settles 152 = .ok (.iconst 0, 1) := by decide +kernel
theorem dX7_settles_153 : decode cX7_settles 153 = .ok (.putfield 134, 3) := by decide +kernel
theorem dX7_settles_156 : decode cX7_settles 156 = .ok (.aload_n 0, 1) := by decide +kernel
theorem dX7_settles_157 : decode cX7_settles 157 = .ok (.iconst 0, 1) := by decide +kernel
theorem dX7_settles_158 : decode cX7_settles 158 = .ok (.putfield 137, 3) := by decide +kernel
theorem dX7_settles_161 : decode cX7_settles 161 = .ok (.aload_n 0, 1) := by decide +kernel
theorem dX7_settles_162 : decode cX7_settles 162 = .ok (.iconst 0, 1) := by decide +kernel
theorem dX7_settles_163 : decode cX7_settles 163 = .ok (.putfield 140, 3) := by decide +kernel
theorem dX7_settles_166 : decode cX7_settles 166 = .ok (.aload_n 0, 1) := by decide +kernel
theorem dX7_settles_167 : decode cX7_settles 167 = .ok (.getfield 31, 3) := by decide +kernel
theorem dX7_settles_170 : decode cX7_settles 170 = .ok (.iconst 0, 1) := by decide +kernel
theorem dX7_settles_171 : decode cX7_settles 171 = .ok (.iconst 0, 1) := by decide +kernel
theorem dX7_settles_172 : decode cX7_settles 172 = .ok (.bastore, 1) := by decide +kernel
theorem dX7_settles_173 : decode cX7_settles 173 = .ok (.aload_n 0, 1) := by decide +kernel
theorem dX7_settles_174 : decode cX7_settles 174 = .ok (.getfield 31, 3) := by decide +kernel
theorem dX7_settles_177 : decode cX7_settles 177 = .ok (.iconst 1, 1) := by decide +kernel
theorem dX7_settles_178 : decode cX7_settles 178 = .ok (.iconst 0, 1) := by decide +kernel
theorem dX7_settles_179 : decode cX7_settles 179 = .ok (.bastore, 1) := by decide +kernel
theorem dX7_settles_180 : decode cX7_settles 180 = .ok (.return_, 1) := by decide +kernel
theorem dX7_isRoad_0 : decode cX7_isRoad 0 = .ok (.iload_n 1, 1) := by decide +kernel
theorem dX7_isRoad_1 : decode cX7_isRoad 1 = .ok (.iconst 0, 1) := by decide +kernel
theorem dX7_isRoad_2 : decode cX7_isRoad 2 = .ok (.aload_n 0, 1) := by decide +kernel
theorem dX7_isRoad_3 : decode cX7_isRoad 3 = .ok (.getfield 13, 3) := by decide +kernel
theorem dX7_isRoad_6 : decode cX7_isRoad 6 = .ok (.iconst 1, 1) := by decide +kernel
theorem dX7_isRoad_7 : decode cX7_isRoad 7 = .ok (.iaload, 1) := by decide +kernel
theorem dX7_isRoad_8 : decode cX7_isRoad 8 = .ok (.iconst 1, 1) := by decide +kernel
theorem dX7_isRoad_9 : decode cX7_isRoad 9 = .ok (.isub, 1) := by decide +kernel
theorem dX7_isRoad_10 : decode cX7_isRoad 10 = .ok (.invokestatic 73, 3) := by decide +kernel
theorem dX7_isRoad_13 : decode cX7_isRoad 13 = .ok (.ireturn, 1) := by decide +kernel
theorem dX7_isPlace_0 : decode cX7_isPlace 0 = .ok (.iload_n 1, 1) := by decide +kernel
theorem dX7_isPlace_1 : decode cX7_isPlace 1 = .ok (.iconst 0, 1) := by decide +kernel
theorem dX7_isPlace_2 : decode cX7_isPlace 2 = .ok (.aload_n 0, 1) := by decide +kernel
theorem dX7_isPlace_3 : decode cX7_isPlace 3 = .ok (.getfield 13, 3) := by decide +kernel
theorem dX7_isPlace_6 : decode cX7_isPlace 6 = .ok (.iconst 0, 1) := by decide +kernel
theorem dX7_isPlace_7 : decode cX7_isPlace 7 = .ok (.iaload, 1) := by decide +kernel
theorem dX7_isPlace_8 : decode cX7_isPlace 8 = .ok (.iconst 1, 1) := by decide +kernel
theorem dX7_isPlace_9 : decode cX7_isPlace 9 = .ok (.isub, 1) := by decide +kernel
theorem dX7_isPlace_10 : decode cX7_isPlace 10 = .ok (.invokestatic 73, 3) := by decide +kernel
theorem dX7_isPlace_13 : decode cX7_isPlace 13 = .ok (.ireturn, 1) := by decide +kernel
theorem dX7_openNow_0 : decode cX7_openNow 0 = .ok (.iconst 1, 1) := by decide +kernel
theorem dX7_openNow_1 : decode cX7_openNow 1 = .ok (.aload_n 0, 1) := by decide +kernel
theorem dX7_openNow_2 : decode cX7_openNow 2 = .ok (.getfield 13, 3) := by decide +kernel
theorem dX7_openNow_5 : decode cX7_openNow 5 = .ok (.iconst 1, 1) := by decide +kernel
theorem dX7_openNow_6 : decode cX7_openNow 6 = .ok (.iaload, 1) := by decide +kernel
theorem dX7_openNow_7 : decode cX7_openNow 7 = .ok (.ishl, 1) := by decide +kernel
theorem dX7_openNow_8 : decode cX7_openNow 8 = .ok (.iconst 1, 1) := by decide +kernel
theorem dX7_openNow_9 : decode cX7_openNow 9 = .ok (.isub, 1) := by decide +kernel
theorem dX7_openNow_10 : decode cX7_openNow 10 = .ok (.aload_n 0, 1) := by decide +kernel
theorem dX7_openNow_11 : decode cX7_openNow 11 = .ok (.getfield 25, 3) := by decide +kernel
theorem dX7_openNow_14 : decode cX7_openNow 14 = .ok (.iconst 4, 1) := by decide +kernel
theorem dX7_openNow_15 : decode cX7_openNow 15 = .ok (.iaload, 1) := by decide +kernel
theorem dX7_openNow_16 : decode cX7_openNow 16 = .ok (.iconst (-1), 1) := by decide +kernel
theorem dX7_openNow_17 : decode cX7_openNow 17 = .ok (.ixor, 1) := by decide +kernel
theorem dX7_openNow_18 : decode cX7_openNow 18 = .ok (.iand, 1) := by decide +kernel
theorem dX7_openNow_19 : decode cX7_openNow 19 = .ok (.ireturn, 1) := by decide +kernel
theorem dX7_isAt_0 : decode cX7_isAt 0 = .ok (.aload_n 0, 1) := by decide +kernel
theorem dX7_isAt_1 : decode cX7_isAt 1 = .ok (.getfield 16, 3) := by decide +kernel
theorem dX7_isAt_4 : decode cX7_isAt 4 = .ok (.iconst 2, 1) := by decide +kernel
theorem dX7_isAt_5 : decode cX7_isAt 5 = .ok (.iload_n 1, 1) := by decide +kernel
theorem dX7_isAt_6 : decode cX7_isAt 6 = .ok (.imul, 1) := by decide +kernel
theorem dX7_isAt_7 : decode cX7_isAt 7 = .ok (.iaload, 1) := by decide +kernel
theorem dX7_isAt_8 : decode cX7_isAt 8 = .ok (.iload_n 2, 1) := by decide +kernel
theorem dX7_isAt_9 : decode cX7_isAt 9 = .ok (.if_icmp .eq 17, 3) := by decide +kernel
theorem dX7_isAt_12 : decode cX7_isAt 12 = .ok (.aload_n 0, 1) := by decide +kernel
theorem dX7_isAt_13 : decode cX7_isAt 13 = .ok (.getfield 16, 3) := by decide +kernel
theorem dX7_isAt_16 : decode cX7_isAt 16 = .ok (.iconst 2, 1) := by decide +kernel
theorem dX7_isAt_17 : decode cX7_isAt 17 = .ok (.iload_n 1, 1) := by decide +kernel
theorem dX7_isAt_18 : decode cX7_isAt 18 = .ok (.imul, 1) := by decide +kernel
theorem dX7_isAt_19 : decode cX7_isAt 19 = .ok (.iconst 1, 1) := by decide +kernel
theorem dX7_isAt_20 : decode cX7_isAt 20 = .ok (.iadd, 1) := by decide +kernel
theorem dX7_isAt_21 : decode cX7_isAt 21 = .ok (.iaload, 1) := by decide +kernel
theorem dX7_isAt_22 : decode cX7_isAt 22 = .ok (.iload_n 2, 1) := by decide +kernel
theorem dX7_isAt_23 : decode cX7_isAt 23 = .ok (.if_icmp .ne 7, 3) := by decide +kernel
theorem dX7_isAt_26 : decode cX7_isAt 26 = .ok (.iconst 1, 1) := by decide +kernel
theorem dX7_isAt_27 : decode cX7_isAt 27 = .ok (.goto 4, 3) := by decide +kernel
theorem dX7_isAt_30 : decode cX7_isAt 30 = .ok (.iconst 0, 1) := by decide +kernel
theorem dX7_isAt_31 : decode cX7_isAt 31 = .ok (.ireturn, 1) := by decide +kernel
theorem dX7_otherEnd_0 : decode cX7_otherEnd 0 = .ok (.aload_n 0, 1) := by decide +kernel
theorem dX7_otherEnd_1 : decode cX7_otherEnd 1 = .ok (.getfield 16, 3) := by decide +kernel
theorem dX7_otherEnd_4 : decode cX7_otherEnd 4 = .ok (.iconst 2, 1) := by decide +kernel
theorem dX7_otherEnd_5 : decode cX7_otherEnd 5 = .ok (.iload_n 1, 1) := by decide +kernel
theorem dX7_otherEnd_6 : decode cX7_otherEnd 6 = .ok (.imul, 1) := by decide +kernel
theorem dX7_otherEnd_7 : decode cX7_otherEnd 7 = .ok (.iaload, 1) := by decide +kernel
theorem dX7_otherEnd_8 : decode cX7_otherEnd 8 = .ok (.iload_n 2, 1) := by decide +kernel
theorem dX7_otherEnd_9 : decode cX7_otherEnd 9 = .ok (.if_icmp .ne 16, 3) := by decide +kernel
theorem dX7_otherEnd_12 : decode cX7_otherEnd 12 = .ok (.aload_n 0, 1) := by decide +kernel
theorem dX7_otherEnd_13 : decode cX7_otherEnd 13 = .ok (.getfield 16, 3) := by decide +kernel
theorem dX7_otherEnd_16 : decode cX7_otherEnd 16 = .ok (.iconst 2, 1) := by decide +kernel
theorem dX7_otherEnd_17 : decode cX7_otherEnd 17 = .ok (.iload_n 1, 1) := by decide +kernel
theorem dX7_otherEnd_18 : decode cX7_otherEnd 18 = .ok (.imul, 1) := by decide +kernel
theorem dX7_otherEnd_19 : decode cX7_otherEnd 19 = .ok (.iconst 1, 1) := by decide +kernel
theorem dX7_otherEnd_20 : decode cX7_otherEnd 20 = .ok (.iadd, 1) := by decide +kernel
theorem dX7_otherEnd_21 : decode cX7_otherEnd 21 = .ok (.iaload, 1) := by decide +kernel
theorem dX7_otherEnd_22 : decode cX7_otherEnd 22 = .ok (.goto 11, 3) := by decide +kernel
theorem dX7_otherEnd_25 : decode cX7_otherEnd 25 = .ok (.aload_n 0, 1) := by decide +kernel
theorem dX7_otherEnd_26 : decode cX7_otherEnd 26 = .ok (.getfield 16, 3) := by decide +kernel
theorem dX7_otherEnd_29 : decode cX7_otherEnd 29 = .ok (.iconst 2, 1) := by decide +kernel
theorem dX7_otherEnd_30 : decode cX7_otherEnd 30 = .ok (.iload_n 1, 1) := by decide +kernel
theorem dX7_otherEnd_31 : decode cX7_otherEnd 31 = .ok (.imul, 1) := by decide +kernel
theorem dX7_otherEnd_32 : decode cX7_otherEnd 32 = .ok (.iaload, 1) := by decide +kernel
theorem dX7_otherEnd_33 : decode cX7_otherEnd 33 = .ok (.ireturn, 1) := by decide +kernel
theorem dX7_road_0 : decode cX7_road 0 = .ok (.aload_n 0, 1) := by decide +kernel
theorem dX7_road_1 : decode cX7_road 1 = .ok (.iconst 0, 1) := by decide +kernel
theorem dX7_road_2 : decode cX7_road 2 = .ok (.putfield 69, 3) := by decide +kernel
theorem dX7_road_5 : decode cX7_road 5 = .ok (.aload_n 0, 1) := by decide +kernel
theorem dX7_road_6 : decode cX7_road 6 = .ok (.iload_n 1, 1) := by decide +kernel
theorem dX7_road_7 : decode cX7_road 7 = .ok (.invokevirtual 143, 3) := by decide +kernel
theorem dX7_road_10 : decode cX7_road 10 = .ok (.ifCond .eq 12, 3) := by decide +kernel
theorem dX7_road_13 : decode cX7_road 13 = .ok (.iload_n 2, 1) := by decide +kernel
theorem dX7_road_14 : decode cX7_road 14 = .ok (.iconst 0, 1) := by decide +kernel
theorem dX7_road_15 : decode cX7_road 15 = .ok (.iconst 5, 1) := by decide +kernel
theorem dX7_road_16 : decode cX7_road 16 = .ok (.invokestatic 73, 3) := by decide +kernel
theorem dX7_road_19 : decode cX7_road 19 = .ok (.ifCond .ne 5, 3) := by decide +kernel
theorem dX7_road_22 : decode cX7_road 22 = .ok (.iconst (-1), 1) := by decide +kernel
theorem dX7_road_23 : decode cX7_road 23 = .ok (.ireturn, 1) := by decide +kernel
theorem dX7_road_24 : decode cX7_road 24 = .ok (.iload_n 2, 1) := by decide +kernel
theorem dX7_road_25 : decode cX7_road 25 = .ok (.iconst 2, 1) := by decide +kernel
theorem dX7_road_26 : decode cX7_road 26 = .ok (.if_icmp .ge 14, 3) := by decide +kernel
theorem dX7_road_29 : decode cX7_road 29 = .ok (.aload_n 0, 1) := by decide +kernel
theorem dX7_road_30 : decode cX7_road 30 = .ok (.getfield 16, 3) := by decide +kernel
theorem dX7_road_33 : decode cX7_road 33 = .ok (.iconst 2, 1) := by decide +kernel
theorem dX7_road_34 : decode cX7_road 34 = .ok (.iload_n 1, 1) := by decide +kernel
theorem dX7_road_35 : decode cX7_road 35 = .ok (.imul, 1) := by decide +kernel
theorem dX7_road_36 : decode cX7_road 36 = .ok (.iload_n 2, 1) := by decide +kernel
theorem dX7_road_37 : decode cX7_road 37 = .ok (.iadd, 1) := by decide +kernel
theorem dX7_road_38 : decode cX7_road 38 = .ok (.iaload, 1) := by decide +kernel
theorem dX7_road_39 : decode cX7_road 39 = .ok (.ireturn, 1) := by decide +kernel
theorem dX7_road_40 : decode cX7_road 40 = .ok (.iload_n 2, 1) := by decide +kernel
theorem dX7_road_41 : decode cX7_road 41 = .ok (.iconst 2, 1) := by decide +kernel
theorem dX7_road_42 : decode cX7_road 42 = .ok (.if_icmp .ne 21, 3) := by decide +kernel
theorem dX7_road_45 : decode cX7_road 45 = .ok (.aload_n 0, 1) := by decide +kernel
theorem dX7_road_46 : decode cX7_road 46 = .ok (.getfield 19, 3) := by decide +kernel
theorem dX7_road_49 : decode cX7_road 49 = .ok (.iload_n 1, 1) := by decide +kernel
theorem dX7_road_50 : decode cX7_road 50 = .ok (.iaload, 1) := by decide +kernel
theorem dX7_road_51 : decode cX7_road 51 = .ok (.aload_n 0, 1) := by decide +kernel
theorem dX7_road_52 : decode cX7_road 52 = .ok (.getfield 25, 3) := by decide +kernel
theorem dX7_road_55 : decode cX7_road 55 = .ok (.iconst 5, 1) := by decide +kernel
theorem dX7_road_56 : decode cX7_road 56 = .ok (.iload_n 1, 1) := by decide +kernel
theorem dX7_road_57 : decode cX7_road 57 = .ok (.iadd, 1) := by decide +kernel
theorem dX7_road_58 : decode cX7_road 58 = .ok (.iaload, 1) := by decide +kernel
theorem dX7_road_59 : decode cX7_road 59 = .ok (.iadd, 1) := by decide +kernel
theorem dX7_road_60 : decode cX7_road 60 = .ok (.goto 43, 3) := by decide +kernel
theorem dX7_road_63 : decode cX7_road 63 = .ok (.iload_n 2, 1) := by decide +kernel
theorem dX7_road_64 : decode cX7_road 64 = .ok (.iconst 3, 1) := by decide +kernel
theorem dX7_road_65 : decode cX7_road 65 = .ok (.if_icmp .ne 14, 3) := by decide +kernel
theorem dX7_road_68 : decode cX7_road 68 = .ok (.aload_n 0, 1) := by decide +kernel
theorem dX7_road_69 : decode cX7_road 69 = .ok (.getfield 25, 3) := by decide +kernel
theorem dX7_road_72 : decode cX7_road 72 = .ok (.iconst 5, 1) := by decide +kernel
theorem dX7_road_73 : decode cX7_road 73 = .ok (.iload_n 1, 1) := by decide +kernel
theorem dX7_road_74 : decode cX7_road 74 = .ok (.iadd, 1) := by decide +kernel
theorem dX7_road_75 : decode cX7_road 75 = .ok (.iaload, 1) := by decide +kernel
theorem dX7_road_76 : decode cX7_road 76 = .ok (.goto 27, 3) := by decide +kernel
theorem dX7_road_79 : decode cX7_road 79 = .ok (.iload_n 2, 1) := by decide +kernel
theorem dX7_road_80 : decode cX7_road 80 = .ok (.iconst 4, 1) := by decide +kernel
theorem dX7_road_81 : decode cX7_road 81 = .ok (.if_icmp .ne 16, 3) := by decide +kernel
theorem dX7_road_84 : decode cX7_road 84 = .ok (.aload_n 0, 1) := by decide +kernel
theorem dX7_road_85 : decode cX7_road 85 = .ok (.getfield 25, 3) := by decide +kernel
theorem dX7_road_88 : decode cX7_road 88 = .ok (.iconst 4, 1) := by decide +kernel
theorem dX7_road_89 : decode cX7_road 89 = .ok (.iaload, 1) := by decide +kernel
theorem dX7_road_90 : decode cX7_road 90 = .ok (.iload_n 1, 1) := by decide +kernel
theorem dX7_road_91 : decode cX7_road 91 = .ok (.ishr, 1) := by decide +kernel
theorem dX7_road_92 : decode cX7_road 92 = .ok (.iconst 1, 1) := by decide +kernel
theorem dX7_road_93 : decode cX7_road 93 = .ok (.iand, 1) := by decide +kernel
theorem dX7_road_94 : decode cX7_road 94 = .ok (.goto 9, 3) := by decide +kernel
theorem dX7_road_97 : decode cX7_road 97 = .ok (.aload_n 0, 1) := by decide +kernel
theorem dX7_road_98 : decode cX7_road 98 = .ok (.getfield 22, 3) := by decide +kernel
theorem dX7_road_101 : decode cX7_road 101 = .ok (.iload_n 1, 1) := by decide +kernel
theorem dX7_road_102 : decode cX7_road 102 = .ok (.iaload, 1) := by decide +kernel
theorem dX7_road_103 : decode cX7_road 103 = .ok (.ireturn, 1) := by decide +kernel
theorem dX7_roadsAt_0 : decode cX7_roadsAt 0 = .ok (.iconst 0, 1) := by decide +kernel
theorem dX7_roadsAt_1 : decode cX7_roadsAt 1 = .ok (.istore_n 3, 1) := by decide +kernel
theorem dX7_roadsAt_2 : decode cX7_roadsAt 2 = .ok (.iconst 0, 1) := by decide +kernel
theorem dX7_roadsAt_3 : decode cX7_roadsAt 3 = .ok (.istore 4, 2) := by decide +kernel
theorem dX7_roadsAt_5 : decode cX7_roadsAt 5 = .ok (.iload 4, 2) := by decide +kernel
theorem dX7_roadsAt_7 : decode cX7_roadsAt 7 = .ok (.aload_n 0, 1) := by decide +kernel
theorem dX7_roadsAt_8 : decode cX7_roadsAt 8 = .ok (.getfield 13, 3) := by decide +kernel
theorem dX7_roadsAt_11 : decode cX7_roadsAt 11 = .ok (.iconst 1, 1) := by decide +kernel
theorem dX7_roadsAt_12 : decode cX7_roadsAt 12 = .ok (.iaload, 1) := by decide +kernel
theorem dX7_roadsAt_13 : decode cX7_roadsAt 13 = .ok (.if_icmp .ge 40, 3) := by decide +kernel
theorem dX7_roadsAt_16 : decode cX7_roadsAt 16 = .ok (.iload_n 3, 1) := by decide +kernel
theorem dX7_roadsAt_17 : decode cX7_roadsAt 17 = .ok (.iload_n 1, 1) := by decide +kernel
theorem dX7_roadsAt_18 : decode cX7_roadsAt 18 = .ok (.iload 4, 2) := by decide +kernel
theorem dX7_roadsAt_20 : decode cX7_roadsAt 20 = .ok (.ishr, 1) := by decide +kernel
theorem dX7_roadsAt_21 : decode cX7_roadsAt 21 = .ok (.iconst 1, 1) := by decide +kernel
theorem dX7_roadsAt_22 : decode cX7_roadsAt 22 = .ok (.iand, 1) := by decide +kernel
theorem dX7_roadsAt_23 : decode cX7_roadsAt 23 = .ok (.iconst 1, 1) := by decide +kernel
theorem dX7_roadsAt_24 : decode cX7_roadsAt 24 = .ok (.if_icmp .ne 20, 3) := by decide +kernel
theorem dX7_roadsAt_27 : decode cX7_roadsAt 27 = .ok (.aload_n 0, 1) := by decide +kernel
theorem dX7_roadsAt_28 : decode cX7_roadsAt 28 = .ok (.iload 4, 2) := by decide +kernel
theorem dX7_roadsAt_30 : decode cX7_roadsAt 30 = .ok (.iload_n 2, 1) := by decide +kernel
theorem dX7_roadsAt_31 : decode cX7_roadsAt 31 = .ok (.invokevirtual 146, 3) := by decide +kernel
theorem dX7_roadsAt_34 : decode cX7_roadsAt 34 = .ok (.ifCond .eq 10, 3) := by decide +kernel
theorem dX7_roadsAt_37 : decode cX7_roadsAt 37 = .ok (.iconst 1, 1) := by decide +kernel
theorem dX7_roadsAt_38 : decode cX7_roadsAt 38 = .ok (.iload 4, 2) := by decide +kernel
theorem dX7_roadsAt_40 : decode cX7_roadsAt 40 = .ok (.ishl, 1) := by decide +kernel
theorem dX7_roadsAt_41 : decode cX7_roadsAt 41 = .ok (.goto 4, 3) := by decide +kernel
theorem dX7_roadsAt_44 : decode cX7_roadsAt 44 = .ok (.iconst 0, 1) := by decide +kernel
theorem dX7_roadsAt_45 : decode cX7_roadsAt 45 = .ok (.ior, 1) := by decide +kernel
theorem dX7_roadsAt_46 : decode cX7_roadsAt 46 = .ok (.istore_n 3, 1) := by decide +kernel
theorem dX7_roadsAt_47 : decode cX7_roadsAt 47 = .ok (.iinc 4 1, 3) := by decide +kernel
theorem dX7_roadsAt_50 : decode cX7_roadsAt 50 = .ok (.goto (-45), 3) := by decide +kernel
theorem dX7_roadsAt_53 : decode cX7_roadsAt 53 = .ok (.iload_n 3, 1) := by decide +kernel
theorem dX7_roadsAt_54 : decode cX7_roadsAt 54 = .ok (.ireturn, 1) := by decide +kernel
theorem dX7_place_0 : decode cX7_place 0 = .ok (.aload_n 0, 1) := by decide +kernel
theorem dX7_place_1 : decode cX7_place 1 = .ok (.iconst 0, 1) := by decide +kernel
theorem dX7_place_2 : decode cX7_place 2 = .ok (.putfield 69, 3) := by decide +kernel
theorem dX7_place_5 : decode cX7_place 5 = .ok (.aload_n 0, 1) := by decide +kernel
theorem dX7_place_6 : decode cX7_place 6 = .ok (.iload_n 1, 1) := by decide +kernel
theorem dX7_place_7 : decode cX7_place 7 = .ok (.invokevirtual 150, 3) := by decide +kernel
theorem dX7_place_10 : decode cX7_place 10 = .ok (.ifCond .eq 15, 3) := by decide +kernel
theorem dX7_place_13 : decode cX7_place 13 = .ok (.aload_n 0, 1) := by decide +kernel
theorem dX7_place_14 : decode cX7_place 14 = .ok (.aload_n 0, 1) := by decide +kernel
theorem dX7_place_15 : decode cX7_place 15 = .ok (.invokevirtual 153, 3) := by decide +kernel
theorem dX7_place_18 : decode cX7_place 18 = .ok (.iload_n 1, 1) := by decide +kernel
theorem dX7_place_19 : decode cX7_place 19 = .ok (.invokevirtual 157, 3) := by decide +kernel
theorem dX7_place_22 : decode cX7_place 22 = .ok (.goto 4, 3) := by decide +kernel
theorem dX7_place_25 : decode cX7_place 25 = .ok (.iconst (-1), 1) := by decide +kernel
theorem dX7_place_26 : decode cX7_place 26 = .ok (.ireturn, 1) := by decide +kernel
theorem dX7_now_0 : decode cX7_now 0 = .ok (.aload_n 0, 1) := by decide +kernel
theorem dX7_now_1 : decode cX7_now 1 = .ok (.iconst 0, 1) := by decide +kernel
end
section
theorem dX7_now_2 : decode cX7_now 2 = .ok (.putfield 69, 3) := by decide +kernel
theorem dX7_now_5 : decode cX7_now 5 = .ok (.iload_n 1, 1) := by decide +kernel
theorem dX7_now_6 : decode cX7_now 6 = .ok (.iconst 0, 1) := by decide +kernel
theorem dX7_now_7 : decode cX7_now 7 = .ok (.iconst 5, 1) := by decide +kernel
theorem dX7_now_8 : decode cX7_now 8 = .ok (.invokestatic 73, 3) := by decide +kernel
theorem dX7_now_11 : decode cX7_now 11 = .ok (.ifCond .ne 5, 3) := by decide +kernel
theorem dX7_now_14 : decode cX7_now 14 = .ok (.iconst (-1), 1) := by decide +kernel
theorem dX7_now_15 : decode cX7_now 15 = .ok (.ireturn, 1) := by decide +kernel
theorem dX7_now_16 : decode cX7_now 16 = .ok (.iload_n 1, 1) := by decide +kernel
theorem dX7_now_17 : decode cX7_now 17 = .ok (.iconst 1, 1) := by decide +kernel
theorem dX7_now_18 : decode cX7_now 18 = .ok (.if_icmp .ne 28, 3) := by decide +kernel
theorem dX7_now_21 : decode cX7_now 21 = .ok (.aload_n 0, 1) := by decide +kernel
theorem dX7_now_22 : decode cX7_now 22 = .ok (.getfield 25, 3) := by decide +kernel
theorem dX7_now_25 : decode cX7_now 25 = .ok (.iconst 1, 1) := by decide +kernel
theorem dX7_now_26 : decode cX7_now 26 = .ok (.iaload, 1) := by decide +kernel
theorem dX7_now_27 : decode cX7_now 27 = .ok (.ifCond .ne 8, 3) := by decide +kernel
theorem dX7_now_30 : decode cX7_now 30 = .ok (.bipush (-9), 2) := by decide +kernel
theorem dX7_now_32 : decode cX7_now 32 = .ok (.goto 32, 3) := by decide +kernel
theorem dX7_now_35 : decode cX7_now 35 = .ok (.aload_n 0, 1) := by decide +kernel
theorem dX7_now_36 : decode cX7_now 36 = .ok (.getfield 25, 3) := by decide +kernel
theorem dX7_now_39 : decode cX7_now 39 = .ok (.iconst 1, 1) := by decide +kernel
theorem dX7_now_40 : decode cX7_now 40 = .ok (.iaload, 1) := by decide +kernel
theorem dX7_now_41 : decode cX7_now 41 = .ok (.iconst 1, 1) := by decide +kernel
theorem dX7_now_42 : decode cX7_now 42 = .ok (.isub, 1) := by decide +kernel
theorem dX7_now_43 : decode cX7_now 43 = .ok (.goto 21, 3) := by decide +kernel
theorem dX7_now_46 : decode cX7_now 46 = .ok (.iload_n 1, 1) := by decide +kernel
theorem dX7_now_47 : decode cX7_now 47 = .ok (.iconst 5, 1) := by decide +kernel
theorem dX7_now_48 : decode cX7_now 48 = .ok (.if_icmp .ne 10, 3) := by decide +kernel
theorem dX7_now_51 : decode cX7_now 51 = .ok (.aload_n 0, 1) := by decide +kernel
theorem dX7_now_52 : decode cX7_now 52 = .ok (.getfield 140, 3) := by decide +kernel
theorem dX7_now_55 : decode cX7_now 55 = .ok (.goto 9, 3) := by decide +kernel
theorem dX7_now_58 : decode cX7_now 58 = .ok (.aload_n 0, 1) := by decide +kernel
theorem dX7_now_59 : decode cX7_now 59 = .ok (.getfield 25, 3) := by decide +kernel
theorem dX7_now_62 : decode cX7_now 62 = .ok (.iload_n 1, 1) := by decide +kernel
theorem dX7_now_63 : decode cX7_now 63 = .ok (.iaload, 1) := by decide +kernel
theorem dX7_now_64 : decode cX7_now 64 = .ok (.ireturn, 1) := by decide +kernel
theorem dX7_notes_0 : decode cX7_notes 0 = .ok (.aload_n 0, 1) := by decide +kernel
theorem dX7_notes_1 : decode cX7_notes 1 = .ok (.getfield 140, 3) := by decide +kernel
theorem dX7_notes_4 : decode cX7_notes 4 = .ok (.bipush 10, 2) := by decide +kernel
theorem dX7_notes_6 : decode cX7_notes 6 = .ok (.if_icmp .ne 39, 3) := by decide +kernel
theorem dX7_notes_9 : decode cX7_notes 9 = .ok (.iconst 0, 1) := by decide +kernel
theorem dX7_notes_10 : decode cX7_notes 10 = .ok (.istore_n 1, 1) := by decide +kernel
theorem dX7_notes_11 : decode cX7_notes 11 = .ok (.iload_n 1, 1) := by decide +kernel
theorem dX7_notes_12 : decode cX7_notes 12 = .ok (.sipush 153, 3) := by decide +kernel
theorem dX7_notes_15 : decode cX7_notes 15 = .ok (.if_icmp .ge 24, 3) := by decide +kernel
theorem dX7_notes_18 : decode cX7_notes 18 = .ok (.aload_n 0, 1) := by decide +kernel
theorem dX7_notes_19 : decode cX7_notes 19 = .ok (.getfield 35, 3) := by decide +kernel
theorem dX7_notes_22 : decode cX7_notes 22 = .ok (.iload_n 1, 1) := by decide +kernel
theorem dX7_notes_23 : decode cX7_notes 23 = .ok (.aload_n 0, 1) := by decide +kernel
theorem dX7_notes_24 : decode cX7_notes 24 = .ok (.getfield 35, 3) := by decide +kernel
theorem dX7_notes_27 : decode cX7_notes 27 = .ok (.iload_n 1, 1) := by decide +kernel
theorem dX7_notes_28 : decode cX7_notes 28 = .ok (.bipush 17, 2) := by decide +kernel
theorem dX7_notes_30 : decode cX7_notes 30 = .ok (.iadd, 1) := by decide +kernel
theorem dX7_notes_31 : decode cX7_notes 31 = .ok (.iaload, 1) := by decide +kernel
theorem dX7_notes_32 : decode cX7_notes 32 = .ok (.iastore, 1) := by decide +kernel
theorem dX7_notes_33 : decode cX7_notes 33 = .ok (.iinc 1 1, 3) := by decide +kernel
theorem dX7_notes_36 : decode cX7_notes 36 = .ok (.goto (-25), 3) := by decide +kernel
theorem dX7_notes_39 : decode cX7_notes 39 = .ok (.aload_n 0, 1) := by decide +kernel
theorem dX7_notes_40 : decode cX7_notes 40 = .ok (.bipush 9, 2) := by decide +kernel
theorem dX7_notes_42 : decode cX7_notes 42 = .ok (.putfield 140, 3) := by decide +kernel
theorem dX7_notes_45 : decode cX7_notes 45 = .ok (.iconst 0, 1) := by decide +kernel
theorem dX7_notes_46 : decode cX7_notes 46 = .ok (.istore_n 1, 1) := by decide +kernel
theorem dX7_notes_47 : decode cX7_notes 47 = .ok (.iload_n 1, 1) := by decide +kernel
theorem dX7_notes_48 : decode cX7_notes 48 = .ok (.bipush 17, 2) := by decide +kernel
theorem dX7_notes_50 : decode cX7_notes 50 = .ok (.if_icmp .ge 29, 3) := by decide +kernel
theorem dX7_notes_53 : decode cX7_notes 53 = .ok (.aload_n 0, 1) := by decide +kernel
theorem dX7_notes_54 : decode cX7_notes 54 = .ok (.getfield 35, 3) := by decide +kernel
theorem dX7_notes_57 : decode cX7_notes 57 = .ok (.bipush 17, 2) := by decide +kernel
theorem dX7_notes_59 : decode cX7_notes 59 = .ok (.aload_n 0, 1) := by decide +kernel
theorem dX7_notes_60 : decode cX7_notes 60 = .ok (.getfield 140, 3) := by decide +kernel
theorem dX7_notes_63 : decode cX7_notes 63 = .ok (.imul, 1) := by decide +kernel
theorem dX7_notes_64 : decode cX7_notes 64 = .ok (.iload_n 1, 1) := by decide +kernel
theorem dX7_notes_65 : decode cX7_notes 65 = .ok (.iadd, 1) := by decide +kernel
theorem dX7_notes_66 : decode cX7_notes 66 = .ok (.aload_n 0, 1) := by decide +kernel
theorem dX7_notes_67 : decode cX7_notes 67 = .ok (.getfield 25, 3) := by decide +kernel
theorem dX7_notes_70 : decode cX7_notes 70 = .ok (.iload_n 1, 1) := by decide +kernel
theorem dX7_notes_71 : decode cX7_notes 71 = .ok (.iaload, 1) := by decide +kernel
theorem dX7_notes_72 : decode cX7_notes 72 = .ok (.iastore, 1) := by decide +kernel
theorem dX7_notes_73 : decode cX7_notes 73 = .ok (.iinc 1 1, 3) := by decide +kernel
theorem dX7_notes_76 : decode cX7_notes 76 = .ok (.goto (-29), 3) := by decide +kernel
theorem dX7_notes_79 : decode cX7_notes 79 = .ok (.aload_n 0, 1) := by decide +kernel
theorem dX7_notes_80 : decode cX7_notes 80 = .ok (.dup, 1) := by decide +kernel
theorem dX7_notes_81 : decode cX7_notes 81 = .ok (.getfield 140, 3) := by decide +kernel
theorem dX7_notes_84 : decode cX7_notes 84 = .ok (.iconst 1, 1) := by decide +kernel
theorem dX7_notes_85 : decode cX7_notes 85 = .ok (.iadd, 1) := by decide +kernel
theorem dX7_notes_86 : decode cX7_notes 86 = .ok (.putfield 140, 3) := by decide +kernel
theorem dX7_notes_89 : decode cX7_notes 89 = .ok (.return_, 1) := by decide +kernel
theorem dX7_isTurn_0 : decode cX7_isTurn 0 = .ok (.iload_n 1, 1) := by decide +kernel
theorem dX7_isTurn_1 : decode cX7_isTurn 1 = .ok (.ifCond .le 22, 3) := by decide +kernel
theorem dX7_isTurn_4 : decode cX7_isTurn 4 = .ok (.aload_n 0, 1) := by decide +kernel
theorem dX7_isTurn_5 : decode cX7_isTurn 5 = .ok (.getfield 22, 3) := by decide +kernel
theorem dX7_isTurn_8 : decode cX7_isTurn 8 = .ok (.iload_n 1, 1) := by decide +kernel
theorem dX7_isTurn_9 : decode cX7_isTurn 9 = .ok (.iconst 1, 1) := by decide +kernel
theorem dX7_isTurn_10 : decode cX7_isTurn 10 = .ok (.isub, 1) := by decide +kernel
theorem dX7_isTurn_11 : decode cX7_isTurn 11 = .ok (.iaload, 1) := by decide +kernel
theorem dX7_isTurn_12 : decode cX7_isTurn 12 = .ok (.iload_n 2, 1) := by decide +kernel
theorem dX7_isTurn_13 : decode cX7_isTurn 13 = .ok (.ishr, 1) := by decide +kernel
theorem dX7_isTurn_14 : decode cX7_isTurn 14 = .ok (.iconst 1, 1) := by decide +kernel
theorem dX7_isTurn_15 : decode cX7_isTurn 15 = .ok (.iand, 1) := by decide +kernel
theorem dX7_isTurn_16 : decode cX7_isTurn 16 = .ok (.ifCond .ne 7, 3) := by decide +kernel
theorem dX7_isTurn_19 : decode cX7_isTurn 19 = .ok (.iconst 1, 1) := by decide +kernel
theorem dX7_isTurn_20 : decode cX7_isTurn 20 = .ok (.goto 4, 3) := by decide +kernel
theorem dX7_isTurn_23 : decode cX7_isTurn 23 = .ok (.iconst 0, 1) := by decide +kernel
theorem dX7_isTurn_24 : decode cX7_isTurn 24 = .ok (.ireturn, 1) := by decide +kernel
theorem dX7_cost_0 : decode cX7_cost 0 = .ok (.aload_n 0, 1) := by decide +kernel
theorem dX7_cost_1 : decode cX7_cost 1 = .ok (.getfield 47, 3) := by decide +kernel
theorem dX7_cost_4 : decode cX7_cost 4 = .ok (.iload_n 2, 1) := by decide +kernel
theorem dX7_cost_5 : decode cX7_cost 5 = .ok (.iaload, 1) := by decide +kernel
theorem dX7_cost_6 : decode cX7_cost 6 = .ok (.aload_n 0, 1) := by decide +kernel
theorem dX7_cost_7 : decode cX7_cost 7 = .ok (.iload_n 1, 1) := by decide +kernel
theorem dX7_cost_8 : decode cX7_cost 8 = .ok (.iload_n 2, 1) := by decide +kernel
theorem dX7_cost_9 : decode cX7_cost 9 = .ok (.invokevirtual 160, 3) := by decide +kernel
theorem dX7_cost_12 : decode cX7_cost 12 = .ok (.ifCond .eq 12, 3) := by decide +kernel
theorem dX7_cost_15 : decode cX7_cost 15 = .ok (.aload_n 0, 1) := by decide +kernel
theorem dX7_cost_16 : decode cX7_cost 16 = .ok (.getfield 13, 3) := by decide +kernel
theorem dX7_cost_19 : decode cX7_cost 19 = .ok (.iconst 4, 1) := by decide +kernel
theorem dX7_cost_20 : decode cX7_cost 20 = .ok (.iaload, 1) := by decide +kernel
theorem dX7_cost_21 : decode cX7_cost 21 = .ok (.goto 4, 3) := by decide +kernel
theorem dX7_cost_24 : decode cX7_cost 24 = .ok (.iconst 0, 1) := by decide +kernel
theorem dX7_cost_25 : decode cX7_cost 25 = .ok (.iadd, 1) := by decide +kernel
theorem dX7_cost_26 : decode cX7_cost 26 = .ok (.ireturn, 1) := by decide +kernel
theorem dX7_asNow_0 : decode cX7_asNow 0 = .ok (.iconst 0, 1) := by decide +kernel
theorem dX7_asNow_1 : decode cX7_asNow 1 = .ok (.istore_n 1, 1) := by decide +kernel
theorem dX7_asNow_2 : decode cX7_asNow 2 = .ok (.iload_n 1, 1) := by decide +kernel
theorem dX7_asNow_3 : decode cX7_asNow 3 = .ok (.aload_n 0, 1) := by decide +kernel
theorem dX7_asNow_4 : decode cX7_asNow 4 = .ok (.getfield 13, 3) := by decide +kernel
theorem dX7_asNow_7 : decode cX7_asNow 7 = .ok (.iconst 1, 1) := by decide +kernel
theorem dX7_asNow_8 : decode cX7_asNow 8 = .ok (.iaload, 1) := by decide +kernel
theorem dX7_asNow_9 : decode cX7_asNow 9 = .ok (.if_icmp .ge 30, 3) := by decide +kernel
theorem dX7_asNow_12 : decode cX7_asNow 12 = .ok (.aload_n 0, 1) := by decide +kernel
theorem dX7_asNow_13 : decode cX7_asNow 13 = .ok (.getfield 47, 3) := by decide +kernel
theorem dX7_asNow_16 : decode cX7_asNow 16 = .ok (.iload_n 1, 1) := by decide +kernel
theorem dX7_asNow_17 : decode cX7_asNow 17 = .ok (.aload_n 0, 1) := by decide +kernel
theorem dX7_asNow_18 : decode cX7_asNow 18 = .ok (.getfield 19, 3) := by decide +kernel
theorem dX7_asNow_21 : decode cX7_asNow 21 = .ok (.iload_n 1, 1) := by decide +kernel
theorem dX7_asNow_22 : decode cX7_asNow 22 = .ok (.iaload, 1) := by decide +kernel
theorem dX7_asNow_23 : decode cX7_asNow 23 = .ok (.aload_n 0, 1) := by decide +kernel
theorem dX7_asNow_24 : decode cX7_asNow 24 = .ok (.getfield 25, 3) := by decide +kernel
theorem dX7_asNow_27 : decode cX7_asNow 27 = .ok (.iconst 5, 1) := by decide +kernel
theorem dX7_asNow_28 : decode cX7_asNow 28 = .ok (.iload_n 1, 1) := by decide +kernel
theorem dX7_asNow_29 : decode cX7_asNow 29 = .ok (.iadd, 1) := by decide +kernel
theorem dX7_asNow_30 : decode cX7_asNow 30 = .ok (.iaload, 1) := by decide +kernel
theorem dX7_asNow_31 : decode cX7_asNow 31 = .ok (.iadd, 1) := by decide +kernel
theorem dX7_asNow_32 : decode cX7_asNow 32 = .ok (.iastore, 1) := by decide +kernel
theorem dX7_asNow_33 : decode cX7_asNow 33 = .ok (.iinc 1 1, 3) := by decide +kernel
theorem dX7_asNow_36 : decode cX7_asNow 36 = .ok (.goto (-34), 3) := by decide +kernel
theorem dX7_asNow_39 : decode cX7_asNow 39 = .ok (.aload_n 0, 1) := by decide +kernel
theorem dX7_asNow_40 : decode cX7_asNow 40 = .ok (.aload_n 0, 1) := by decide +kernel
theorem dX7_asNow_41 : decode cX7_asNow 41 = .ok (.invokevirtual 153, 3) := by decide +kernel
theorem dX7_asNow_44 : decode cX7_asNow 44 = .ok (.putfield 163, 3) := by decide +kernel
theorem dX7_asNow_47 : decode cX7_asNow 47 = .ok (.return_, 1) := by decide +kernel
theorem dX7_takes_0 : decode cX7_takes 0 = .ok (.aload_n 0, 1) := by decide +kernel
theorem dX7_takes_1 : decode cX7_takes 1 = .ok (.iconst 0, 1) := by decide +kernel
theorem dX7_takes_2 : decode cX7_takes 2 = .ok (.putfield 69, 3) := by decide +kernel
theorem dX7_takes_5 : decode cX7_takes 5 = .ok (.aload_n 0, 1) := by decide +kernel
theorem dX7_takes_6 : decode cX7_takes 6 = .ok (.iload_n 1, 1) := by decide +kernel
theorem dX7_takes_7 : decode cX7_takes 7 = .ok (.invokevirtual 143, 3) := by decide +kernel
theorem dX7_takes_10 : decode cX7_takes 10 = .ok (.ifCond .ne 5, 3) := by decide +kernel
theorem dX7_takes_13 : decode cX7_takes 13 = .ok (.iconst (-1), 1) := by decide +kernel
theorem dX7_takes_14 : decode cX7_takes 14 = .ok (.ireturn, 1) := by decide +kernel
theorem dX7_takes_15 : decode cX7_takes 15 = .ok (.aload_n 0, 1) := by decide +kernel
theorem dX7_takes_16 : decode cX7_takes 16 = .ok (.invokevirtual 166, 3) := by decide +kernel
theorem dX7_takes_19 : decode cX7_takes 19 = .ok (.aload_n 0, 1) := by decide +kernel
theorem dX7_takes_20 : decode cX7_takes 20 = .ok (.aload_n 0, 1) := by decide +kernel
theorem dX7_takes_21 : decode cX7_takes 21 = .ok (.getfield 25, 3) := by decide +kernel
theorem dX7_takes_24 : decode cX7_takes 24 = .ok (.iconst 1, 1) := by decide +kernel
theorem dX7_takes_25 : decode cX7_takes 25 = .ok (.iaload, 1) := by decide +kernel
theorem dX7_takes_26 : decode cX7_takes 26 = .ok (.iload_n 1, 1) := by decide +kernel
theorem dX7_takes_27 : decode cX7_takes 27 = .ok (.invokevirtual 169, 3) := by decide +kernel
theorem dX7_takes_30 : decode cX7_takes 30 = .ok (.istore_n 2, 1) := by decide +kernel
theorem dX7_takes_31 : decode cX7_takes 31 = .ok (.aload_n 0, 1) := by decide +kernel
theorem dX7_takes_32 : decode cX7_takes 32 = .ok (.getfield 163, 3) := by decide +kernel
theorem dX7_takes_35 : decode cX7_takes 35 = .ok (.iload_n 1, 1) := by decide +kernel
theorem dX7_takes_36 : decode cX7_takes 36 = .ok (.ishr, 1) := by decide +kernel
theorem dX7_takes_37 : decode cX7_takes 37 = .ok (.iconst 1, 1) := by decide +kernel
theorem dX7_takes_38 : decode cX7_takes 38 = .ok (.iand, 1) := by decide +kernel
theorem dX7_takes_39 : decode cX7_takes 39 = .ok (.ifCond .eq 31, 3) := by decide +kernel
theorem dX7_takes_42 : decode cX7_takes 42 = .ok (.aload_n 0, 1) := by decide +kernel
theorem dX7_takes_43 : decode cX7_takes 43 = .ok (.iload_n 1, 1) := by decide +kernel
theorem dX7_takes_44 : decode cX7_takes 44 = .ok (.aload_n 0, 1) := by decide +kernel
theorem dX7_takes_45 : decode cX7_takes 45 = .ok (.getfield 25, 3) := by decide +kernel
theorem dX7_takes_48 : decode cX7_takes 48 = .ok (.iconst 0, 1) := by decide +kernel
theorem dX7_takes_49 : decode cX7_takes 49 = .ok (.iaload, 1) := by decide +kernel
theorem dX7_takes_50 : decode cX7_takes 50 = .ok (.invokevirtual 146, 3) := by decide +kernel
theorem dX7_takes_53 : decode cX7_takes 53 = .ok (.ifCond .eq 17, 3) := by decide +kernel
theorem dX7_takes_56 : decode cX7_takes 56 = .ok (.aload_n 0, 1) := by decide +kernel
theorem dX7_takes_57 : decode cX7_takes 57 = .ok (.getfield 25, 3) := by decide +kernel
theorem dX7_takes_60 : decode cX7_takes 60 = .ok (.iconst 2, 1) := by decide +kernel
theorem dX7_takes_61 : decode cX7_takes 61 = .ok (.iaload, 1) := by decide +kernel
theorem dX7_takes_62 : decode cX7_takes 62 = .ok (.iload_n 2, 1) := by decide +kernel
theorem dX7_takes_63 : decode cX7_takes 63 = .ok (.iadd, 1) := by decide +kernel
theorem dX7_takes_64 : decode cX7_takes 64 = .ok (.sipush 9999, 3) := by decide +kernel
theorem dX7_takes_67 : decode cX7_takes 67 = .ok (.if_icmp .le 6, 3) := by decide +kernel
theorem dX7_takes_70 : decode cX7_takes 70 = .ok (.bipush (-2), 2) := by decide +kernel
theorem dX7_takes_72 : decode cX7_takes 72 = .ok (.ireturn, 1) := by decide +kernel
theorem dX7_takes_73 : decode cX7_takes 73 = .ok (.aload_n 0, 1) := by decide +kernel
theorem dX7_takes_74 : decode cX7_takes 74 = .ok (.invokevirtual 172, 3) := by decide +kernel
theorem dX7_takes_77 : decode cX7_takes 77 = .ok (.aload_n 0, 1) := by decide +kernel
theorem dX7_takes_78 : decode cX7_takes 78 = .ok (.getfield 25, 3) := by decide +kernel
theorem dX7_takes_81 : decode cX7_takes 81 = .ok (.iconst 2, 1) := by decide +kernel
theorem dX7_takes_82 : decode cX7_takes 82 = .ok (.dup2, 1) := by decide +kernel
theorem dX7_takes_83 : decode cX7_takes 83 = .ok (.iaload, 1) := by decide +kernel
theorem dX7_takes_84 : decode cX7_takes 84 = .ok (.iload_n 2, 1) := by decide +kernel
theorem dX7_takes_85 : decode cX7_takes 85 = .ok (.iadd, 1) := by decide +kernel
theorem dX7_takes_86 : decode cX7_takes 86 = .ok (.iastore, 1) := by decide +kernel
theorem dX7_takes_87 : decode cX7_takes 87 = .ok (.aload_n 0, 1) := by decide +kernel
theorem dX7_takes_88 : decode cX7_takes 88 = .ok (.getfield 25, 3) := by decide +kernel
theorem dX7_takes_91 : decode cX7_takes 91 = .ok (.iconst 3, 1) := by decide +kernel
theorem dX7_takes_92 : decode cX7_takes 92 = .ok (.dup2, 1) := by decide +kernel
theorem dX7_takes_93 : decode cX7_takes 93 = .ok (.iaload, 1) := by decide +kernel
theorem dX7_takes_94 : decode cX7_takes 94 = .ok (.aload_n 0, 1) := by decide +kernel
theorem dX7_takes_95 : decode cX7_takes 95 = .ok (.aload_n 0, 1) := by decide +kernel
theorem dX7_takes_96 : decode cX7_takes 96 = .ok (.getfield 25, 3) := by decide +kernel
theorem dX7_takes_99 : decode cX7_takes 99 = .ok (.iconst 1, 1) := by decide +kernel
theorem dX7_takes_100 : decode cX7_takes 100 = .ok (.iaload, 1) := by decide +kernel
theorem dX7_takes_101 : decode cX7_takes 101 = .ok (.iload_n 1, 1) := by decide +kernel
theorem dX7_takes_102 : decode cX7_takes 102 = .ok (.invokevirtual 160, 3) := by decide +kernel
theorem dX7_takes_105 : decode cX7_takes 105 = .ok (.ifCond .eq 7, 3) := by decide +kernel
theorem dX7_takes_108 : decode cX7_takes 108 = .ok (.iconst 1, 1) := by decide +kernel
theorem dX7_takes_109 : decode cX7_takes 109 = .ok (.goto 4, 3) := by decide +kernel
theorem dX7_takes_112 : decode cX7_takes 112 = .ok (.iconst 0, 1) := by decide +kernel
theorem dX7_takes_113 : decode cX7_takes 113 = .ok (.iadd, 1) := by decide +kernel
theorem dX7_takes_114 : decode cX7_takes 114 = .ok (.iastore, 1) := by decide +kernel
theorem dX7_takes_115 : decode cX7_takes 115 = .ok (.aload_n 0, 1) := by decide +kernel
theorem dX7_takes_116 : decode cX7_takes 116 = .ok (.getfield 25, 3) := by decide +kernel
theorem dX7_takes_119 : decode cX7_takes 119 = .ok (.iconst 0, 1) := by decide +kernel
theorem dX7_takes_120 : decode cX7_takes 120 = .ok (.aload_n 0, 1) := by decide +kernel
theorem dX7_takes_121 : decode cX7_takes 121 = .ok (.iload_n 1, 1) := by decide +kernel
theorem dX7_takes_122 : decode cX7_takes 122 = .ok (.aload_n 0, 1) := by decide +kernel
theorem dX7_takes_123 : decode cX7_takes 123 = .ok (.getfield 25, 3) := by decide +kernel
theorem dX7_takes_126 : decode cX7_takes 126 = .ok (.iconst 0, 1) := by decide +kernel
theorem dX7_takes_127 : decode cX7_takes 127 = .ok (.iaload, 1) := by decide +kernel
theorem dX7_takes_128 : decode cX7_takes 128 = .ok (.invokevirtual 175, 3) := by decide +kernel
theorem dX7_takes_131 : decode cX7_takes 131 = .ok (.iastore, 1) := by decide +kernel
theorem dX7_takes_132 : decode cX7_takes 132 = .ok (.aload_n 0, 1) := by decide +kernel
theorem dX7_takes_133 : decode cX7_takes 133 = .ok (.getfield 25, 3) := by decide +kernel
theorem dX7_takes_136 : decode cX7_takes 136 = .ok (.iconst 1, 1) := by decide +kernel
theorem dX7_takes_137 : decode cX7_takes 137 = .ok (.iload_n 1, 1) := by decide +kernel
theorem dX7_takes_138 : decode cX7_takes 138 = .ok (.iconst 1, 1) := by decide +kernel
theorem dX7_takes_139 : decode cX7_takes 139 = .ok (.iadd, 1) := by decide +kernel
theorem dX7_takes_140 : decode cX7_takes 140 = .ok (.iastore, 1) := by decide +kernel
theorem dX7_takes_141 : decode cX7_takes 141 = .ok (.iload_n 2, 1) := by decide +kernel
theorem dX7_takes_142 : decode cX7_takes 142 = .ok (.ireturn, 1) := by decide +kernel
theorem dX7_jams_0 : decode cX7_jams 0 = .ok (.aload_n 0, 1) := by decide +kernel
theorem dX7_jams_1 : decode cX7_jams 1 = .ok (.iconst 0, 1) := by decide +kernel
theorem dX7_jams_2 : decode cX7_jams 2 = .ok (.putfield 69, 3) := by decide +kernel
theorem dX7_jams_5 : decode cX7_jams 5 = .ok (.aload_n 0, 1) := by decide +kernel
theorem dX7_jams_6 : decode cX7_jams 6 = .ok (.iload_n 1, 1) := by decide +kernel
theorem dX7_jams_7 : decode cX7_jams 7 = .ok (.invokevirtual 143, 3) := by decide +kernel
theorem dX7_jams_10 : decode cX7_jams 10 = .ok (.ifCond .eq 13, 3) := by decide +kernel
theorem dX7_jams_13 : decode cX7_jams 13 = .ok (.iload_n 2, 1) := by decide +kernel
theorem dX7_jams_14 : decode cX7_jams 14 = .ok (.iconst 0, 1) := by decide +kernel
theorem dX7_jams_15 : decode cX7_jams 15 = .ok (.bipush 60, 2) := by decide +kernel
theorem dX7_jams_17 : decode cX7_jams 17 = .ok (.invokestatic 73, 3) := by decide +kernel
theorem dX7_jams_20 : decode cX7_jams 20 = .ok (.ifCond .ne 5, 3) := by decide +kernel
theorem dX7_jams_23 : decode cX7_jams 23 = .ok (.iconst (-1), 1) := by decide +kernel
theorem dX7_jams_24 : decode cX7_jams 24 = .ok (.ireturn, 1) := by decide +kernel
theorem dX7_jams_25 : decode cX7_jams 25 = .ok (.aload_n 0, 1) := by decide +kernel
theorem dX7_jams_26 : decode cX7_jams 26 = .ok (.invokevirtual 172, 3) := by decide +kernel
theorem dX7_jams_29 : decode cX7_jams 29 = .ok (.aload_n 0, 1) := by decide +kernel
theorem dX7_jams_30 : decode cX7_jams 30 = .ok (.getfield 25, 3) := by decide +kernel
theorem dX7_jams_33 : decode cX7_jams 33 = .ok (.iconst 5, 1) := by decide +kernel
theorem dX7_jams_34 : decode cX7_jams 34 = .ok (.iload_n 1, 1) := by decide +kernel
theorem dX7_jams_35 : decode cX7_jams 35 = .ok (.iadd, 1) := by decide +kernel
theorem dX7_jams_36 : decode cX7_jams 36 = .ok (.iaload, 1) := by decide +kernel
theorem dX7_jams_37 : decode cX7_jams 37 = .ok (.istore_n 3, 1) := by decide +kernel
theorem dX7_jams_38 : decode cX7_jams 38 = .ok (.aload_n 0, 1) := by decide +kernel
theorem dX7_jams_39 : decode cX7_jams 39 = .ok (.getfield 25, 3) := by decide +kernel
theorem dX7_jams_42 : decode cX7_jams 42 = .ok (.iconst 5, 1) := by decide +kernel
theorem dX7_jams_43 : decode cX7_jams 43 = .ok (.iload_n 1, 1) := by decide +kernel
theorem dX7_jams_44 : decode cX7_jams 44 = .ok (.iadd, 1) := by decide +kernel
theorem dX7_jams_45 : decode cX7_jams 45 = .ok (.iload_n 2, 1) := by decide +kernel
theorem dX7_jams_46 : decode cX7_jams 46 = .ok (.iastore, 1) := by decide +kernel
theorem dX7_jams_47 : decode cX7_jams 47 = .ok (.iload_n 3, 1) := by decide +kernel
theorem dX7_jams_48 : decode cX7_jams 48 = .ok (.ireturn, 1) := by decide +kernel
theorem dX7_shuts_0 : decode cX7_shuts 0 = .ok (.aload_n 0, 1) := by decide +kernel
theorem dX7_shuts_1 : decode cX7_shuts 1 = .ok (.iconst 0, 1) := by decide +kernel
theorem dX7_shuts_2 : decode cX7_shuts 2 = .ok (.putfield 69, 3) := by decide +kernel
theorem dX7_shuts_5 : decode cX7_shuts 5 = .ok (.aload_n 0, 1) := by decide +kernel
theorem dX7_shuts_6 : decode cX7_shuts 6 = .ok (.iload_n 1, 1) := by decide +kernel
theorem dX7_shuts_7 : decode cX7_shuts 7 = .ok (.invokevirtual 143, 3) := by decide +kernel
theorem dX7_shuts_10 : decode cX7_shuts 10 = .ok (.ifCond .eq 12, 3) := by decide +kernel
theorem dX7_shuts_13 : decode cX7_shuts 13 = .ok (.iload_n 2, 1) := by decide +kernel
theorem dX7_shuts_14 : decode cX7_shuts 14 = .ok (.iconst 0, 1) := by decide +kernel
theorem dX7_shuts_15 : decode cX7_shuts 15 = .ok (.iconst 1, 1) := by decide +kernel
theorem dX7_shuts_16 : decode cX7_shuts 16 = .ok (.invokestatic 73, 3) := by decide +kernel
theorem dX7_shuts_19 : decode cX7_shuts 19 = .ok (.ifCond .ne 5, 3) := by decide +kernel
theorem dX7_shuts_22 : decode cX7_shuts 22 = .ok (.iconst (-1), 1) := by decide +kernel
theorem dX7_shuts_23 : decode cX7_shuts 23 = .ok (.ireturn, 1) := by decide +kernel
theorem dX7_shuts_24 : decode cX7_shuts 24 = .ok (.aload_n 0, 1) := by decide +kernel
theorem dX7_shuts_25 : decode cX7_shuts 25 = .ok (.getfield 25, 3) := by decide +kernel
theorem dX7_shuts_28 : decode cX7_shuts 28 = .ok (.iconst 4, 1) := by decide +kernel
theorem dX7_shuts_29 : decode cX7_shuts 29 = .ok (.iaload, 1) := by decide +kernel
theorem dX7_shuts_30 : decode cX7_shuts 30 = .ok (.iload_n 1, 1) := by decide +kernel
theorem dX7_shuts_31 : decode cX7_shuts 31 = .ok (.ishr, 1) := by decide +kernel
theorem dX7_shuts_32 : decode cX7_shuts 32 = .ok (.iconst 1, 1) := by decide +kernel
theorem dX7_shuts_33 : decode cX7_shuts 33 = .ok (.iand, 1) := by decide +kernel
theorem dX7_shuts_34 : decode cX7_shuts 34 = .ok (.iload_n 2, 1) := by decide +kernel
theorem dX7_shuts_35 : decode cX7_shuts 35 = .ok (.if_icmp .ne 6, 3) := by decide +kernel
theorem dX7_shuts_38 : decode cX7_shuts 38 = .ok (.bipush (-2), 2) := by decide +kernel
theorem dX7_shuts_40 : decode cX7_shuts 40 = .ok (.ireturn, 1) := by decide +kernel
theorem dX7_shuts_41 : decode cX7_shuts 41 = .ok (.aload_n 0, 1) := by decide +kernel
theorem dX7_shuts_42 : decode cX7_shuts 42 = .ok (.invokevirtual 172, 3) := by decide +kernel
theorem dX7_shuts_45 : decode cX7_shuts 45 = .ok (.aload_n 0, 1) := by decide +kernel
theorem dX7_shuts_46 : decode cX7_shuts 46 = .ok (.getfield 25, 3) := by decide +kernel
theorem dX7_shuts_49 : decode cX7_shuts 49 = .ok (.iconst 4, 1) := by decide +kernel
theorem dX7_shuts_50 : decode cX7_shuts 50 = .ok (.aload_n 0, 1) := by decide +kernel
theorem dX7_shuts_51 : decode cX7_shuts 51 = .ok (.getfield 25, 3) := by decide +kernel
theorem dX7_shuts_54 : decode cX7_shuts 54 = .ok (.iconst 4, 1) := by decide +kernel
theorem dX7_shuts_55 : decode cX7_shuts 55 = .ok (.iaload, 1) := by decide +kernel
theorem dX7_shuts_56 : decode cX7_shuts 56 = .ok (.iconst 1, 1) := by decide +kernel
theorem dX7_shuts_57 : decode cX7_shuts 57 = .ok (.iload_n 1, 1) := by decide +kernel
theorem dX7_shuts_58 : decode cX7_shuts 58 = .ok (.ishl, 1) := by decide +kernel
theorem dX7_shuts_59 : decode cX7_shuts 59 = .ok (.iconst (-1), 1) := by decide +kernel
theorem dX7_shuts_60 : decode cX7_shuts 60 = .ok (.ixor, 1) := by decide +kernel
theorem dX7_shuts_61 : decode cX7_shuts 61 = .ok (.iand, 1) := by decide +kernel
theorem dX7_shuts_62 : decode cX7_shuts 62 = .ok (.iload_n 2, 1) := by decide +kernel
theorem dX7_shuts_63 : decode cX7_shuts 63 = .ok (.iload_n 1, 1) := by decide +kernel
theorem dX7_shuts_64 : decode cX7_shuts 64 = .ok (.ishl, 1) := by decide +kernel
theorem dX7_shuts_65 : decode cX7_shuts 65 = .ok (.ior, 1) := by decide +kernel
theorem dX7_shuts_66 : decode cX7_shuts 66 = .ok (.iastore, 1) := by decide +kernel
theorem dX7_shuts_67 : decode cX7_shuts 67 = .ok (.aload_n 0, 1) := by decide +kernel
theorem dX7_shuts_68 : decode cX7_shuts 68 = .ok (.getfield 25, 3) := by decide +kernel
theorem dX7_shuts_71 : decode cX7_shuts 71 = .ok (.iconst 4, 1) := by decide +kernel
theorem dX7_shuts_72 : decode cX7_shuts 72 = .ok (.iaload, 1) := by decide +kernel
theorem dX7_shuts_73 : decode cX7_shuts 73 = .ok (.invokestatic 178, 3) := by decide +kernel
theorem dX7_shuts_76 : decode cX7_shuts 76 = .ok (.ireturn, 1) := by decide +kernel
theorem dX7_undo_0 : decode cX7_undo 0 = .ok (.aload_n 0, 1) := by decide +kernel
theorem dX7_undo_1 : decode cX7_undo 1 = .ok (.iconst 0, 1) := by decide +kernel
theorem dX7_undo_2 : decode cX7_undo 2 = .ok (.putfield 69, 3) := by decide +kernel
theorem dX7_undo_5 : decode cX7_undo 5 = .ok (.aload_n 0, 1) := by decide +kernel
theorem dX7_undo_6 : decode cX7_undo 6 = .ok (.getfield 140, 3) := by decide +kernel
theorem dX7_undo_9 : decode cX7_undo 9 = .ok (.ifCond .ne 6, 3) := by decide +kernel
theorem dX7_undo_12 : decode cX7_undo 12 = .ok (.bipush (-2), 2) := by decide +kernel
theorem dX7_undo_14 : decode cX7_undo 14 = .ok (.ireturn, 1) := by decide +kernel
theorem dX7_undo_15 : decode cX7_undo 15 = .ok (.aload_n 0, 1) := by decide +kernel
theorem dX7_undo_16 : decode cX7_undo 16 = .ok (.dup, 1) := by decide +kernel
theorem dX7_undo_17 : decode cX7_undo 17 = .ok (.getfield 140, 3) := by decide +kernel
theorem dX7_undo_20 : decode cX7_undo 20 = .ok (.iconst 1, 1) := by decide +kernel
theorem dX7_undo_21 : decode cX7_undo 21 = .ok (.isub, 1) := by decide +kernel
theorem dX7_undo_22 : decode cX7_undo 22 = .ok (.putfield 140, 3) := by decide +kernel
theorem dX7_undo_25 : decode cX7_undo 25 = .ok (.iconst 0, 1) := by decide +kernel
theorem dX7_undo_26 : decode cX7_undo 26 = .ok (.istore_n 1, 1) := by decide +kernel
theorem dX7_undo_27 : decode cX7_undo 27 = .ok (.iload_n 1, 1) := by decide +kernel
theorem dX7_undo_28 : decode cX7_undo 28 = .ok (.bipush 17, 2) := by decide +kernel
theorem dX7_undo_30 : decode cX7_undo 30 = .ok (.if_icmp .ge 29, 3) := by decide +kernel
theorem dX7_undo_33 : decode cX7_undo 33 = .ok (.aload_n 0, 1) := by decide +kernel
theorem dX7_undo_34 : decode cX7_undo 34 = .ok (.getfield 25, 3) := by decide +kernel
theorem dX7_undo_37 : decode cX7_undo 37 = .ok (.iload_n 1, 1) := by decide +kernel
theorem dX7_undo_38 : decode cX7_undo 38 = .ok (.aload_n 0, 1) := by decide +kernel
theorem dX7_undo_39 : decode cX7_undo 39 = .ok (.getfield 35, 3) := by decide +kernel
theorem dX7_undo_42 : decode cX7_undo 42 = .ok (.bipush 17, 2) := by decide +kernel
theorem dX7_undo_44 : decode cX7_undo 44 = .ok (.aload_n 0, 1) := by decide +kernel
theorem dX7_undo_45 : decode cX7_undo 45 = .ok (.getfield 140, 3) := by decide +kernel
theorem dX7_undo_48 : decode cX7_undo 48 = .ok (.imul, 1) := by decide +kernel
theorem dX7_undo_49 : decode cX7_undo 49 = .ok (.iload_n 1, 1) := by decide +kernel
theorem dX7_undo_50 : decode cX7_undo 50 = .ok (.iadd, 1) := by decide +kernel
theorem dX7_undo_51 : decode cX7_undo 51 = .ok (.iaload, 1) := by decide +kernel
theorem dX7_undo_52 : decode cX7_undo 52 = .ok (.iastore, 1) := by decide +kernel
theorem dX7_undo_53 : decode cX7_undo 53 = .ok (.iinc 1 1, 3) := by decide +kernel
theorem dX7_undo_56 : decode cX7_undo 56 = .ok (.goto (-29), 3) := by decide +kernel
theorem dX7_undo_59 : decode cX7_undo 59 = .ok (.aload_n 0, 1) := by decide +kernel
theorem dX7_undo_60 : decode cX7_undo 60 = .ok (.getfield 140, 3) := by decide +kernel
theorem dX7_undo_63 : decode cX7_undo 63 = .ok (.ireturn, 1) := by decide +kernel
theorem dX7_farFrom_0 : decode cX7_farFrom 0 = .ok (.iload_n 1, 1) := by decide +kernel
theorem dX7_farFrom_1 : decode cX7_farFrom 1 = .ok (.aload_n 0, 1) := by decide +kernel
theorem dX7_farFrom_2 : decode cX7_farFrom 2 = .ok (.getfield 13, 3) := by decide +kernel
theorem dX7_farFrom_5 : decode cX7_farFrom 5 = .ok (.iconst 3, 1) := by decide +kernel
theorem dX7_farFrom_6 : decode cX7_farFrom 6 = .ok (.iaload, 1) := by decide +kernel
theorem dX7_farFrom_7 : decode cX7_farFrom 7 = .ok (.if_icmp .ne 5, 3) := by decide +kernel
theorem dX7_farFrom_10 : decode cX7_farFrom 10 = .ok (.iconst 0, 1) := by decide +kernel
theorem dX7_farFrom_11 : decode cX7_farFrom 11 = .ok (.ireturn, 1) := by decide +kernel
theorem dX7_farFrom_12 : decode cX7_farFrom 12 = .ok (.ldc 181, 2) := by decide +kernel
theorem dX7_farFrom_14 : decode cX7_farFrom 14 = .ok (.istore_n 3, 1) := by decide +kernel
theorem dX7_farFrom_15 : decode cX7_farFrom 15 = .ok (.iconst 0, 1) := by decide +kernel
theorem dX7_farFrom_16 : decode cX7_farFrom 16 = .ok (.istore 4, 2) := by decide +kernel
theorem dX7_farFrom_18 : decode cX7_farFrom 18 = .ok (.iload 4, 2) := by decide +kernel
theorem dX7_farFrom_20 : decode cX7_farFrom 20 = .ok (.aload_n 0, 1) := by decide +kernel
theorem dX7_farFrom_21 : decode cX7_farFrom 21 = .ok (.getfield 13, 3) := by decide +kernel
theorem dX7_farFrom_24 : decode cX7_farFrom 24 = .ok (.iconst 1, 1) := by decide +kernel
theorem dX7_farFrom_25 : decode cX7_farFrom 25 = .ok (.iaload, 1) := by decide +kernel
theorem dX7_farFrom_26 : decode cX7_farFrom 26 = .ok (.if_icmp .ge 55, 3) := by decide +kernel
theorem dX7_farFrom_29 : decode cX7_farFrom 29 = .ok (.aload_n 0, 1) := by decide +kernel
theorem dX7_farFrom_30 : decode cX7_farFrom 30 = .ok (.getfield 163, 3) := by decide +kernel
theorem dX7_farFrom_33 : decode cX7_farFrom 33 = .ok (.iload 4, 2) := by decide +kernel
theorem dX7_farFrom_35 : decode cX7_farFrom 35 = .ok (.ishr, 1) := by decide +kernel
theorem dX7_farFrom_36 : decode cX7_farFrom 36 = .ok (.iconst 1, 1) := by decide +kernel
theorem dX7_farFrom_37 : decode cX7_farFrom 37 = .ok (.iand, 1) := by decide +kernel
theorem dX7_farFrom_38 : decode cX7_farFrom 38 = .ok (.iconst 1, 1) := by decide +kernel
theorem dX7_farFrom_39 : decode cX7_farFrom 39 = .ok (.if_icmp .ne 36, 3) := by decide +kernel
theorem dX7_farFrom_42 : decode cX7_farFrom 42 = .ok (.aload_n 0, 1) := by decide +kernel
theorem dX7_farFrom_43 : decode cX7_farFrom 43 = .ok (.iload 4, 2) := by decide +kernel
theorem dX7_farFrom_45 : decode cX7_farFrom 45 = .ok (.iload_n 1, 1) := by decide +kernel
theorem dX7_farFrom_46 : decode cX7_farFrom 46 = .ok (.invokevirtual 146, 3) := by decide +kernel
theorem dX7_farFrom_49 : decode cX7_farFrom 49 = .ok (.ifCond .eq 26, 3) := by decide +kernel
theorem dX7_farFrom_52 : decode cX7_farFrom 52 = .ok (.aload_n 0, 1) := by decide +kernel
theorem dX7_farFrom_53 : decode cX7_farFrom 53 = .ok (.iload_n 1, 1) := by decide +kernel
theorem dX7_farFrom_54 : decode cX7_farFrom 54 = .ok (.iload_n 2, 1) := by decide +kernel
theorem dX7_farFrom_55 : decode cX7_farFrom 55 = .ok (.iload 4, 2) := by decide +kernel
theorem dX7_farFrom_57 : decode cX7_farFrom 57 = .ok (.invokevirtual 182, 3) := by decide +kernel
theorem dX7_farFrom_60 : decode cX7_farFrom 60 = .ok (.istore 5, 2) := by decide +kernel
theorem dX7_farFrom_62 : decode cX7_farFrom 62 = .ok (.iload 5, 2) := by decide +kernel
theorem dX7_farFrom_64 : decode cX7_farFrom 64 = .ok (.iload_n 3, 1) := by decide +kernel
theorem dX7_farFrom_65 : decode cX7_farFrom 65 = .ok (.if_icmp .ge 8, 3) := by decide +kernel
theorem dX7_farFrom_68 : decode cX7_farFrom 68 = .ok (.iload 5, 2) := by decide +kernel
theorem dX7_farFrom_70 : decode cX7_farFrom 70 = .ok (.goto 4, 3) := by decide +kernel
theorem dX7_farFrom_73 : decode cX7_farFrom 73 = .ok (.iload_n 3, 1) := by decide +kernel
theorem dX7_farFrom_74 : decode cX7_farFrom 74 = .ok (.istore_n 3, 1) := by decide +kernel
theorem dX7_farFrom_75 : decode cX7_farFrom 75 = .ok (.iinc 4 1, 3) := by decide +kernel
theorem dX7_farFrom_78 : decode cX7_farFrom 78 = .ok (.goto (-60), 3) := by decide +kernel
theorem dX7_farFrom_81 : decode cX7_farFrom 81 = .ok (.iload_n 3, 1) := by decide +kernel
theorem dX7_farFrom_82 : decode cX7_farFrom 82 = .ok (.ireturn, 1) := by decide +kernel
theorem dX7_onBy_0 : decode cX7_onBy 0 = .ok (.aload_n 0, 1) := by decide +kernel
theorem dX7_onBy_1 : decode cX7_onBy 1 = .ok (.iload_n 3, 1) := by decide +kernel
theorem dX7_onBy_2 : decode cX7_onBy 2 = .ok (.iload_n 1, 1) := by decide +kernel
theorem dX7_onBy_3 : decode cX7_onBy 3 = .ok (.invokevirtual 175, 3) := by decide +kernel
theorem dX7_onBy_6 : decode cX7_onBy 6 = .ok (.istore 4, 2) := by decide +kernel
theorem dX7_onBy_8 : decode cX7_onBy 8 = .ok (.aload_n 0, 1) := by decide +kernel
theorem dX7_onBy_9 : decode cX7_onBy 9 = .ok (.iload_n 2, 1) := by decide +kernel
theorem dX7_onBy_10 : decode cX7_onBy 10 = .ok (.iload_n 3, 1) := by decide +kernel
theorem dX7_onBy_11 : decode cX7_onBy 11 = .ok (.invokevirtual 169, 3) := by decide +kernel
theorem dX7_onBy_14 : decode cX7_onBy 14 = .ok (.aload_n 0, 1) := by decide +kernel
theorem dX7_onBy_15 : decode cX7_onBy 15 = .ok (.getfield 50, 3) := by decide +kernel
theorem dX7_onBy_18 : decode cX7_onBy 18 = .ok (.iconst 2, 1) := by decide +kernel
theorem dX7_onBy_19 : decode cX7_onBy 19 = .ok (.iload_n 3, 1) := by decide +kernel
theorem dX7_onBy_20 : decode cX7_onBy 20 = .ok (.imul, 1) := by decide +kernel
theorem dX7_onBy_21 : decode cX7_onBy 21 = .ok (.aload_n 0, 1) := by decide +kernel
theorem dX7_onBy_22 : decode cX7_onBy 22 = .ok (.getfield 16, 3) := by decide +kernel
theorem dX7_onBy_25 : decode cX7_onBy 25 = .ok (.iconst 2, 1) := by decide +kernel
theorem dX7_onBy_26 : decode cX7_onBy 26 = .ok (.iload_n 3, 1) := by decide +kernel
theorem dX7_onBy_27 : decode cX7_onBy 27 = .ok (.imul, 1) := by decide +kernel
theorem dX7_onBy_28 : decode cX7_onBy 28 = .ok (.iconst 1, 1) := by decide +kernel
theorem dX7_onBy_29 : decode cX7_onBy 29 = .ok (.iadd, 1) := by decide +kernel
theorem dX7_onBy_30 : decode cX7_onBy 30 = .ok (.iaload, 1) := by decide +kernel
theorem dX7_onBy_31 : decode cX7_onBy 31 = .ok (.iload 4, 2) := by decide +kernel
theorem dX7_onBy_33 : decode cX7_onBy 33 = .ok (.if_icmp .ne 7, 3) := by decide +kernel
theorem dX7_onBy_36 : decode cX7_onBy 36 = .ok (.iconst 1, 1) := by decide +kernel
theorem dX7_onBy_37 : decode cX7_onBy 37 = .ok (.goto 4, 3) := by decide +kernel
theorem dX7_onBy_40 : decode cX7_onBy 40 = .ok (.iconst 0, 1) := by decide +kernel
theorem dX7_onBy_41 : decode cX7_onBy 41 = .ok (.iadd, 1) := by decide +kernel
theorem dX7_onBy_42 : decode cX7_onBy 42 = .ok (.iaload, 1) := by decide +kernel
theorem dX7_onBy_43 : decode cX7_onBy 43 = .ok (.iadd, 1) := by decide +kernel
theorem dX7_onBy_44 : decode cX7_onBy 44 = .ok (.istore 5, 2) := by decide +kernel
theorem dX7_onBy_46 : decode cX7_onBy 46 = .ok (.iload 5, 2) := by decide +kernel
theorem dX7_onBy_48 : decode cX7_onBy 48 = .ok (.ldc 181, 2) := by decide +kernel
theorem dX7_onBy_50 : decode cX7_onBy 50 = .ok (.if_icmp .le 8, 3) := by decide +kernel
theorem dX7_onBy_53 : decode cX7_onBy 53 = .ok (.ldc 181, 2) := by decide +kernel
theorem dX7_onBy_55 : decode cX7_onBy 55 = .ok (.goto 5, 3) := by decide +kernel
theorem dX7_onBy_58 : decode cX7_onBy 58 = .ok (.iload 5, 2) := by decide +kernel
theorem dX7_onBy_60 : decode cX7_onBy 60 = .ok (.ireturn, 1) := by decide +kernel
theorem dX7_measures_0 : decode cX7_measures 0 = .ok (.iconst 0, 1) := by decide +kernel
theorem dX7_measures_1 : decode cX7_measures 1 = .ok (.istore_n 1, 1) := by decide +kernel
theorem dX7_measures_2 : decode cX7_measures 2 = .ok (.iload_n 1, 1) := by decide +kernel
theorem dX7_measures_3 : decode cX7_measures 3 = .ok (.bipush 24, 2) := by decide +kernel
theorem dX7_measures_5 : decode cX7_measures 5 = .ok (.if_icmp .ge 17, 3) := by decide +kernel
theorem dX7_measures_8 : decode cX7_measures 8 = .ok (.aload_n 0, 1) := by decide +kernel
theorem dX7_measures_9 : decode cX7_measures 9 = .ok (.getfield 50, 3) := by decide +kernel
theorem dX7_measures_12 : decode cX7_measures 12 = .ok (.iload_n 1, 1) := by decide +kernel
theorem dX7_measures_13 : decode cX7_measures 13 = .ok (.ldc 181, 2) := by decide +kernel
theorem dX7_measures_15 : decode cX7_measures 15 = .ok (.iastore, 1) := by decide +kernel
theorem dX7_measures_16 : decode cX7_measures 16 = .ok (.iinc 1 1, 3) := by decide +kernel
theorem dX7_measures_19 : decode cX7_measures 19 = .ok (.goto (-17), 3) := by decide +kernel
theorem dX7_measures_22 : decode cX7_measures 22 = .ok (.iconst 1, 1) := by decide +kernel
theorem dX7_measures_23 : decode cX7_measures 23 = .ok (.istore_n 1, 1) := by decide +kernel
theorem dX7_measures_24 : decode cX7_measures 24 = .ok (.iload_n 1, 1) := by decide +kernel
theorem dX7_measures_25 : decode cX7_measures 25 = .ok (.ifCond .eq 90, 3) := by decide +kernel
theorem dX7_measures_28 : decode cX7_measures 28 = .ok (.iconst 0, 1) := by decide +kernel
theorem dX7_measures_29 : decode cX7_measures 29 = .ok (.istore_n 1, 1) := by decide +kernel
theorem dX7_measures_30 : decode cX7_measures 30 = .ok (.iconst 0, 1) := by decide +kernel
theorem dX7_measures_31 : decode cX7_measures 31 = .ok (.istore_n 2, 1) := by decide +kernel
theorem dX7_measures_32 : decode cX7_measures 32 = .ok (.iload_n 2, 1) := by decide +kernel
theorem dX7_measures_33 : decode cX7_measures 33 = .ok (.iconst 2, 1) := by decide +kernel
theorem dX7_measures_34 : decode cX7_measures 34 = .ok (.aload_n 0, 1) := by decide +kernel
theorem dX7_measures_35 : decode cX7_measures 35 = .ok (.getfield 13, 3) := by decide +kernel
theorem dX7_measures_38 : decode cX7_measures 38 = .ok (.iconst 1, 1) := by decide +kernel
theorem dX7_measures_39 : decode cX7_measures 39 = .ok (.iaload, 1) := by decide +kernel
theorem dX7_measures_40 : decode cX7_measures 40 = .ok (.imul, 1) := by decide +kernel
theorem dX7_measures_41 : decode cX7_measures 41 = .ok (.if_icmp .ge 71, 3) := by decide +kernel
theorem dX7_measures_44 : decode cX7_measures 44 = .ok (.aload_n 0, 1) := by decide +kernel
theorem dX7_measures_45 : decode cX7_measures 45 = .ok (.aload_n 0, 1) := by decide +kernel
theorem dX7_measures_46 : decode cX7_measures 46 = .ok (.getfield 16, 3) := by decide +kernel
theorem dX7_measures_49 : decode cX7_measures 49 = .ok (.iload_n 2, 1) := by decide +kernel
theorem dX7_measures_50 : decode cX7_measures 50 = .ok (.iaload, 1) := by decide +kernel
theorem dX7_measures_51 : decode cX7_measures 51 = .ok (.iload_n 2, 1) := by decide +kernel
theorem dX7_measures_52 : decode cX7_measures 52 = .ok (.iconst 2, 1) := by decide +kernel
theorem dX7_measures_53 : decode cX7_measures 53 = .ok (.idiv, 1) := by decide +kernel
theorem dX7_measures_54 : decode cX7_measures 54 = .ok (.iconst 1, 1) := by decide +kernel
theorem dX7_measures_55 : decode cX7_measures 55 = .ok (.iadd, 1) := by decide +kernel
theorem dX7_measures_56 : decode cX7_measures 56 = .ok (.invokevirtual 186, 3) := by decide +kernel
theorem dX7_measures_59 : decode cX7_measures 59 = .ok (.istore_n 3, 1) := by decide +kernel
theorem dX7_measures_60 : decode cX7_measures 60 = .ok (.iload_n 1, 1) := by decide +kernel
theorem dX7_measures_61 : decode cX7_measures 61 = .ok (.ifCond .ne 13, 3) := by decide +kernel
theorem dX7_measures_64 : decode cX7_measures 64 = .ok (.iload_n 3, 1) := by decide +kernel
theorem dX7_measures_65 : decode cX7_measures 65 = .ok (.aload_n 0, 1) := by decide +kernel
theorem dX7_measures_66 : decode cX7_measures 66 = .ok (.getfield 50, 3) := by decide +kernel
theorem dX7_measures_69 : decode cX7_measures 69 = .ok (.iload_n 2, 1) := by decide +kernel
theorem dX7_measures_70 : decode cX7_measures 70 = .ok (.iaload, 1) := by decide +kernel
theorem dX7_measures_71 : decode cX7_measures 71 = .ok (.if_icmp .ge 7, 3) := by decide +kernel
theorem dX7_measures_74 : decode cX7_measures 74 = .ok (.iconst 1, 1) := by decide +kernel
theorem dX7_measures_75 : decode cX7_measures 75 = .ok (.goto 4, 3) := by decide +kernel
theorem dX7_measures_78 : decode cX7_measures 78 = .ok (.iconst 0, 1) := by decide +kernel
theorem dX7_measures_79 : decode cX7_measures 79 = .ok (.istore_n 1, 1) := by decide +kernel
theorem dX7_measures_80 : decode cX7_measures 80 = .ok (.aload_n 0, 1) := by decide +kernel
theorem dX7_measures_81 : decode cX7_measures 81 = .ok (.getfield 50, 3) := by decide +kernel
theorem dX7_measures_84 : decode cX7_measures 84 = .ok (.iload_n 2, 1) := by decide +kernel
theorem dX7_measures_85 : decode cX7_measures 85 = .ok (.iload_n 3, 1) := by decide +kernel
theorem dX7_measures_86 : decode cX7_measures 86 = .ok (.aload_n 0, 1) := by decide +kernel
theorem dX7_measures_87 : decode cX7_measures 87 = .ok (.getfield 50, 3) := by decide +kernel
theorem dX7_measures_90 : decode cX7_measures 90 = .ok (.iload_n 2, 1) := by decide +kernel
theorem dX7_measures_91 : decode cX7_measures 91 = .ok (.iaload, 1) := by decide +kernel
theorem dX7_measures_92 : decode cX7_measures 92 = .ok (.if_icmp .ge 7, 3) := by decide +kernel
theorem dX7_measures_95 : decode cX7_measures 95 = .ok (.iload_n 3, 1) := by decide +kernel
theorem dX7_measures_96 : decode cX7_measures 96 = .ok (.goto 9, 3) := by decide +kernel
theorem dX7_measures_99 : decode cX7_measures 99 = .ok (.aload_n 0, 1) := by decide +kernel
theorem dX7_measures_100 : decode cX7_measures 100 = .ok (.getfield 50, 3) := by decide +kernel
theorem dX7_measures_103 : decode cX7_measures 103 = .ok (.iload_n 2, 1) := by decide +kernel
theorem dX7_measures_104 : decode cX7_measures 104 = .ok (.iaload, 1) := by decide +kernel
theorem dX7_measures_105 : decode cX7_measures 105 = .ok (.iastore, 1) := by decide +kernel
theorem dX7_measures_106 : decode cX7_measures 106 = .ok (.iinc 2 1, 3) := by decide +kernel
theorem dX7_measures_109 : decode cX7_measures 109 = .ok (.goto (-77), 3) := by decide +kernel
theorem dX7_measures_112 : decode cX7_measures 112 = .ok (.goto (-88), 3) := by decide +kernel
theorem dX7_measures_115 : decode cX7_measures 115 = .ok (.return_, 1) := by decide +kernel
theorem dX7_firstFrom_0 : decode cX7_firstFrom 0 = .ok (.bipush (-9), 2) := by decide +kernel
theorem dX7_firstFrom_2 : decode cX7_firstFrom 2 = .ok (.istore_n 3, 1) := by decide +kernel
theorem dX7_firstFrom_3 : decode cX7_firstFrom 3 = .ok (.aload_n 0, 1) := by decide +kernel
theorem dX7_firstFrom_4 : decode cX7_firstFrom 4 = .ok (.iload_n 1, 1) := by decide +kernel
theorem dX7_firstFrom_5 : decode cX7_firstFrom 5 = .ok (.iload_n 2, 1) := by decide +kernel
theorem dX7_firstFrom_6 : decode cX7_firstFrom 6 = .ok (.invokevirtual 186, 3) := by decide +kernel
theorem dX7_firstFrom_9 : decode cX7_firstFrom 9 = .ok (.istore 4, 2) := by decide +kernel
theorem dX7_firstFrom_11 : decode cX7_firstFrom 11 = .ok (.aload_n 0, 1) := by decide +kernel
theorem dX7_firstFrom_12 : decode cX7_firstFrom 12 = .ok (.getfield 13, 3) := by decide +kernel
theorem dX7_firstFrom_15 : decode cX7_firstFrom 15 = .ok (.iconst 1, 1) := by decide +kernel
theorem dX7_firstFrom_16 : decode cX7_firstFrom 16 = .ok (.iaload, 1) := by decide +kernel
theorem dX7_firstFrom_17 : decode cX7_firstFrom 17 = .ok (.iconst 1, 1) := by decide +kernel
theorem dX7_firstFrom_18 : decode cX7_firstFrom 18 = .ok (.isub, 1) := by decide +kernel
theorem dX7_firstFrom_19 : decode cX7_firstFrom 19 = .ok (.istore 5, 2) := by decide +kernel
theorem dX7_firstFrom_21 : decode cX7_firstFrom 21 = .ok (.iload 5, 2) := by decide +kernel
theorem dX7_firstFrom_23 : decode cX7_firstFrom 23 = .ok (.ifCond .lt 81, 3) := by decide +kernel
theorem dX7_firstFrom_26 : decode cX7_firstFrom 26 = .ok (.iload_n 1, 1) := by decide +kernel
theorem dX7_firstFrom_27 : decode cX7_firstFrom 27 = .ok (.aload_n 0, 1) := by decide +kernel
theorem dX7_firstFrom_28 : decode cX7_firstFrom 28 = .ok (.getfield 13, 3) := by decide +kernel
theorem dX7_firstFrom_31 : decode cX7_firstFrom 31 = .ok (.iconst 3, 1) := by decide +kernel
theorem dX7_firstFrom_32 : decode cX7_firstFrom 32 = .ok (.iaload, 1) := by decide +kernel
theorem dX7_firstFrom_33 : decode cX7_firstFrom 33 = .ok (.if_icmp .eq 50, 3) := by decide +kernel
theorem dX7_firstFrom_36 : decode cX7_firstFrom 36 = .ok (.iload 4, 2) := by decide +kernel
theorem dX7_firstFrom_38 : decode cX7_firstFrom 38 = .ok (.ldc 181, 2) := by decide +kernel
theorem dX7_firstFrom_40 : decode cX7_firstFrom 40 = .ok (.if_icmp .ge 43, 3) := by decide +kernel
theorem dX7_firstFrom_43 : decode cX7_firstFrom 43 = .ok (.aload_n 0, 1) := by decide +kernel
theorem dX7_firstFrom_44 : decode cX7_firstFrom 44 = .ok (.getfield 163, 3) := by decide +kernel
theorem dX7_firstFrom_47 : decode cX7_firstFrom 47 = .ok (.iload 5, 2) := by decide +kernel
theorem dX7_firstFrom_49 : decode cX7_firstFrom 49 = .ok (.ishr, 1) := by decide +kernel
theorem dX7_firstFrom_50 : decode cX7_firstFrom 50 = .ok (.iconst 1, 1) := by decide +kernel
theorem dX7_firstFrom_51 : decode cX7_firstFrom 51 = .ok (.iand, 1) := by decide +kernel
theorem dX7_firstFrom_52 : decode cX7_firstFrom 52 = .ok (.iconst 1, 1) := by decide +kernel
theorem dX7_firstFrom_53 : decode cX7_firstFrom 53 = .ok (.if_icmp .ne 30, 3) := by decide +kernel
theorem dX7_firstFrom_56 : decode cX7_firstFrom 56 = .ok (.aload_n 0, 1) := by decide +kernel
theorem dX7_firstFrom_57 : decode cX7_firstFrom 57 = .ok (.iload 5, 2) := by decide +kernel
theorem dX7_firstFrom_59 : decode cX7_firstFrom 59 = .ok (.iload_n 1, 1) := by decide +kernel
theorem dX7_firstFrom_60 : decode cX7_firstFrom 60 = .ok (.invokevirtual 146, 3) := by decide +kernel
theorem dX7_firstFrom_63 : decode cX7_firstFrom 63 = .ok (.ifCond .eq 20, 3) := by decide +kernel
theorem dX7_firstFrom_66 : decode cX7_firstFrom 66 = .ok (.aload_n 0, 1) := by decide +kernel
theorem dX7_firstFrom_67 : decode cX7_firstFrom 67 = .ok (.iload_n 1, 1) := by decide +kernel
theorem dX7_firstFrom_68 : decode cX7_firstFrom 68 = .ok (.iload_n 2, 1) := by decide +kernel
theorem dX7_firstFrom_69 : decode cX7_firstFrom 69 = .ok (.iload 5, 2) := by decide +kernel
theorem dX7_firstFrom_71 : decode cX7_firstFrom 71 = .ok (.invokevirtual 182, 3) := by decide +kernel
theorem dX7_firstFrom_74 : decode cX7_firstFrom 74 = .ok (.iload 4, 2) := by decide +kernel
theorem dX7_firstFrom_76 : decode cX7_firstFrom 76 = .ok (.if_icmp .ne 7, 3) := by decide +kernel
theorem dX7_firstFrom_79 : decode cX7_firstFrom 79 = .ok (.iconst 1, 1) := by decide +kernel
theorem dX7_firstFrom_80 : decode cX7_firstFrom 80 = .ok (.goto 4, 3) := by decide +kernel
theorem dX7_firstFrom_83 : decode cX7_firstFrom 83 = .ok (.iconst 0, 1) := by decide +kernel
theorem dX7_firstFrom_84 : decode cX7_firstFrom 84 = .ok (.istore 6, 2) := by decide +kernel
theorem dX7_firstFrom_86 : decode cX7_firstFrom 86 = .ok (.iload 6, 2) := by decide +kernel
theorem dX7_firstFrom_88 : decode cX7_firstFrom 88 = .ok (.ifCond .eq 8, 3) := by decide +kernel
theorem dX7_firstFrom_91 : decode cX7_firstFrom 91 = .ok (.iload 5, 2) := by decide +kernel
theorem dX7_firstFrom_93 : decode cX7_firstFrom 93 = .ok (.goto 4, 3) := by decide +kernel
theorem dX7_firstFrom_96 : decode cX7_firstFrom 96 = .ok (.iload_n 3, 1) := by decide +kernel
theorem dX7_firstFrom_97 : decode cX7_firstFrom 97 = .ok (.istore_n 3, 1) := by decide +kernel
theorem dX7_firstFrom_98 : decode cX7_firstFrom 98 = .ok (.iinc 5 (-1), 3) := by decide +kernel
theorem dX7_firstFrom_101 : decode cX7_firstFrom 101 = .ok (.goto (-80), 3) := by decide +kernel
theorem dX7_firstFrom_104 : decode cX7_firstFrom 104 = .ok (.iload_n 3, 1) := by decide +kernel
theorem dX7_firstFrom_105 : decode cX7_firstFrom 105 = .ok (.ireturn, 1) := by decide +kernel
theorem dX7_kthFrom_0 : decode cX7_kthFrom 0 = .ok (.iload_n 1, 1) := by decide +kernel
theorem dX7_kthFrom_1 : decode cX7_kthFrom 1 = .ok (.istore 4, 2) := by decide +kernel
theorem dX7_kthFrom_3 : decode cX7_kthFrom 3 = .ok (.iload_n 2, 1) := by decide +kernel
theorem dX7_kthFrom_4 : decode cX7_kthFrom 4 = .ok (.istore 5, 2) := by decide +kernel
theorem dX7_kthFrom_6 : decode cX7_kthFrom 6 = .ok (.aload_n 0, 1) := by decide +kernel
theorem dX7_kthFrom_7 : decode cX7_kthFrom 7 = .ok (.iconst 0, 1) := by decide +kernel
theorem dX7_kthFrom_8 : decode cX7_kthFrom 8 = .ok (.putfield 189, 3) := by decide +kernel
theorem dX7_kthFrom_11 : decode cX7_kthFrom 11 = .ok (.iconst 0, 1) := by decide +kernel
theorem dX7_kthFrom_12 : decode cX7_kthFrom 12 = .ok (.istore 6, 2) := by decide +kernel
theorem dX7_kthFrom_14 : decode cX7_kthFrom 14 = .ok (.iload 6, 2) := by decide +kernel
theorem dX7_kthFrom_16 : decode cX7_kthFrom 16 = .ok (.bipush 12, 2) := by decide +kernel
theorem dX7_kthFrom_18 : decode cX7_kthFrom 18 = .ok (.if_icmp .ge 17, 3) := by decide +kernel
theorem dX7_kthFrom_21 : decode cX7_kthFrom 21 = .ok (.aload_n 0, 1) := by decide +kernel
theorem dX7_kthFrom_22 : decode cX7_kthFrom 22 = .ok (.getfield 53, 3) := by decide +kernel
theorem dX7_kthFrom_25 : decode cX7_kthFrom 25 = .ok (.iload 6, 2) := by decide +kernel
theorem dX7_kthFrom_27 : decode cX7_kthFrom 27 = .ok (.iconst 0, 1) := by decide +kernel
theorem dX7_kthFrom_28 : decode cX7_kthFrom 28 = .ok (.iastore, 1) := by decide +kernel
theorem dX7_kthFrom_29 : decode cX7_kthFrom 29 = .ok (.iinc 6 1, 3) := by decide +kernel
theorem dX7_kthFrom_32 : decode cX7_kthFrom 32 = .ok (.goto (-18), 3) := by decide +kernel
theorem dX7_kthFrom_35 : decode cX7_kthFrom 35 = .ok (.iconst 0, 1) := by decide +kernel
theorem dX7_kthFrom_36 : decode cX7_kthFrom 36 = .ok (.istore 6, 2) := by decide +kernel
theorem dX7_kthFrom_38 : decode cX7_kthFrom 38 = .ok (.aload_n 0, 1) := by decide +kernel
theorem dX7_kthFrom_39 : decode cX7_kthFrom 39 = .ok (.iload 4, 2) := by decide +kernel
theorem dX7_kthFrom_41 : decode cX7_kthFrom 41 = .ok (.iload 5, 2) := by decide +kernel
theorem dX7_kthFrom_43 : decode cX7_kthFrom 43 = .ok (.invokevirtual 192, 3) := by decide +kernel
theorem dX7_kthFrom_46 : decode cX7_kthFrom 46 = .ok (.istore 7, 2) := by decide +kernel
theorem dX7_kthFrom_48 : decode cX7_kthFrom 48 = .ok (.iload 7, 2) := by decide +kernel
theorem dX7_kthFrom_50 : decode cX7_kthFrom 50 = .ok (.bipush (-9), 2) := by decide +kernel
theorem dX7_kthFrom_52 : decode cX7_kthFrom 52 = .ok (.if_icmp .ne 6, 3) := by decide +kernel
theorem dX7_kthFrom_55 : decode cX7_kthFrom 55 = .ok (.bipush (-5), 2) := by decide +kernel
theorem dX7_kthFrom_57 : decode cX7_kthFrom 57 = .ok (.ireturn, 1) := by decide +kernel
theorem dX7_kthFrom_58 : decode cX7_kthFrom 58 = .ok (.iload 6, 2) := by decide +kernel
theorem dX7_kthFrom_60 : decode cX7_kthFrom 60 = .ok (.iload_n 3, 1) := by decide +kernel
theorem dX7_kthFrom_61 : decode cX7_kthFrom 61 = .ok (.if_icmp .ne 6, 3) := by decide +kernel
theorem dX7_kthFrom_64 : decode cX7_kthFrom 64 = .ok (.iload 7, 2) := by decide +kernel
theorem dX7_kthFrom_66 : decode cX7_kthFrom 66 = .ok (.ireturn, 1) := by decide +kernel
theorem dX7_kthFrom_67 : decode cX7_kthFrom 67 = .ok (.aload_n 0, 1) := by decide +kernel
theorem dX7_kthFrom_68 : decode cX7_kthFrom 68 = .ok (.dup, 1) := by decide +kernel
theorem dX7_kthFrom_69 : decode cX7_kthFrom 69 = .ok (.getfield 189, 3) := by decide +kernel
theorem dX7_kthFrom_72 : decode cX7_kthFrom 72 = .ok (.aload_n 0, 1) := by decide +kernel
theorem dX7_kthFrom_73 : decode cX7_kthFrom 73 = .ok (.iload 5, 2) := by decide +kernel
theorem dX7_kthFrom_75 : decode cX7_kthFrom 75 = .ok (.iload 7, 2) := by decide +kernel
theorem dX7_kthFrom_77 : decode cX7_kthFrom 77 = .ok (.invokevirtual 160, 3) := by decide +kernel
theorem dX7_kthFrom_80 : decode cX7_kthFrom 80 = .ok (.ifCond .eq 7, 3) := by decide +kernel
theorem dX7_kthFrom_83 : decode cX7_kthFrom 83 = .ok (.iconst 1, 1) := by decide +kernel
theorem dX7_kthFrom_84 : decode cX7_kthFrom 84 = .ok (.goto 4, 3) := by decide +kernel
theorem dX7_kthFrom_87 : decode cX7_kthFrom 87 = .ok (.iconst 0, 1) := by decide +kernel
theorem dX7_kthFrom_88 : decode cX7_kthFrom 88 = .ok (.iadd, 1) := by decide +kernel
theorem dX7_kthFrom_89 : decode cX7_kthFrom 89 = .ok (.putfield 189, 3) := by decide +kernel
theorem dX7_kthFrom_92 : decode cX7_kthFrom 92 = .ok (.aload_n 0, 1) := by decide +kernel
theorem dX7_kthFrom_93 : decode cX7_kthFrom 93 = .ok (.getfield 53, 3) := by decide +kernel
theorem dX7_kthFrom_96 : decode cX7_kthFrom 96 = .ok (.iload 7, 2) := by decide +kernel
theorem dX7_kthFrom_98 : decode cX7_kthFrom 98 = .ok (.dup2, 1) := by decide +kernel
theorem dX7_kthFrom_99 : decode cX7_kthFrom 99 = .ok (.iaload, 1) := by decide +kernel
theorem dX7_kthFrom_100 : decode cX7_kthFrom 100 = .ok (.iconst 1, 1) := by decide +kernel
theorem dX7_kthFrom_101 : decode cX7_kthFrom 101 = .ok (.iadd, 1) := by decide +kernel
theorem dX7_kthFrom_102 : decode cX7_kthFrom 102 = .ok (.iastore, 1) := by decide +kernel
theorem dX7_kthFrom_103 : decode cX7_kthFrom 103 = .ok (.aload_n 0, 1) := by decide +kernel
theorem dX7_kthFrom_104 : decode cX7_kthFrom 104 = .ok (.iload 7, 2) := by decide +kernel
theorem dX7_kthFrom_106 : decode cX7_kthFrom 106 = .ok (.iload 4, 2) := by decide +kernel
theorem dX7_kthFrom_108 : decode cX7_kthFrom 108 = .ok (.invokevirtual 175, 3) := by decide +kernel
theorem dX7_kthFrom_111 : decode cX7_kthFrom 111 = .ok (.istore 4, 2) := by decide +kernel
theorem dX7_kthFrom_113 : decode cX7_kthFrom 113 = .ok (.iload 7, 2) := by decide +kernel
theorem dX7_kthFrom_115 : decode cX7_kthFrom 115 = .ok (.iconst 1, 1) := by decide +kernel
theorem dX7_kthFrom_116 : decode cX7_kthFrom 116 = .ok (.iadd, 1) := by decide +kernel
theorem dX7_kthFrom_117 : decode cX7_kthFrom 117 = .ok (.istore 5, 2) := by decide +kernel
theorem dX7_kthFrom_119 : decode cX7_kthFrom 119 = .ok (.iinc 6 1, 3) := by decide +kernel
theorem dX7_kthFrom_122 : decode cX7_kthFrom 122 = .ok (.goto (-84), 3) := by decide +kernel
theorem dX7_way_0 : decode cX7_way 0 = .ok (.aload_n 0, 1) := by decide +kernel
theorem dX7_way_1 : decode cX7_way 1 = .ok (.iconst 0, 1) := by decide +kernel
theorem dX7_way_2 : decode cX7_way 2 = .ok (.putfield 69, 3) := by decide +kernel
theorem dX7_way_5 : decode cX7_way 5 = .ok (.iload_n 1, 1) := by decide +kernel
theorem dX7_way_6 : decode cX7_way 6 = .ok (.bipush (-2), 2) := by decide +kernel
theorem dX7_way_8 : decode cX7_way 8 = .ok (.if_icmp .ge 5, 3) := by decide +kernel
theorem dX7_way_11 : decode cX7_way 11 = .ok (.iconst (-1), 1) := by decide +kernel
theorem dX7_way_12 : decode cX7_way 12 = .ok (.ireturn, 1) := by decide +kernel
theorem dX7_way_13 : decode cX7_way 13 = .ok (.aload_n 0, 1) := by decide +kernel
theorem dX7_way_14 : decode cX7_way 14 = .ok (.invokevirtual 166, 3) := by decide +kernel
theorem dX7_way_17 : decode cX7_way 17 = .ok (.aload_n 0, 1) := by decide +kernel
theorem dX7_way_18 : decode cX7_way 18 = .ok (.invokevirtual 195, 3) := by decide +kernel
theorem dX7_way_21 : decode cX7_way 21 = .ok (.aload_n 0, 1) := by decide +kernel
theorem dX7_way_22 : decode cX7_way 22 = .ok (.aload_n 0, 1) := by decide +kernel
theorem dX7_way_23 : decode cX7_way 23 = .ok (.getfield 25, 3) := by decide +kernel
theorem dX7_way_26 : decode cX7_way 26 = .ok (.iconst 0, 1) := by decide +kernel
theorem dX7_way_27 : decode cX7_way 27 = .ok (.iaload, 1) := by decide +kernel
theorem dX7_way_28 : decode cX7_way 28 = .ok (.aload_n 0, 1) := by decide +kernel
theorem dX7_way_29 : decode cX7_way 29 = .ok (.getfield 25, 3) := by decide +kernel
theorem dX7_way_32 : decode cX7_way 32 = .ok (.iconst 1, 1) := by decide +kernel
theorem dX7_way_33 : decode cX7_way 33 = .ok (.iaload, 1) := by decide +kernel
theorem dX7_way_34 : decode cX7_way 34 = .ok (.invokevirtual 186, 3) := by decide +kernel
theorem dX7_way_37 : decode cX7_way 37 = .ok (.istore_n 2, 1) := by decide +kernel
theorem dX7_way_38 : decode cX7_way 38 = .ok (.iload_n 2, 1) := by decide +kernel
theorem dX7_way_39 : decode cX7_way 39 = .ok (.ldc 181, 2) := by decide +kernel
theorem dX7_way_41 : decode cX7_way 41 = .ok (.if_icmp .eq 8, 3) := by decide +kernel
theorem dX7_way_44 : decode cX7_way 44 = .ok (.iload_n 1, 1) := by decide +kernel
theorem dX7_way_45 : decode cX7_way 45 = .ok (.iconst (-1), 1) := by decide +kernel
theorem dX7_way_46 : decode cX7_way 46 = .ok (.if_icmp .ne 16, 3) := by decide +kernel
theorem dX7_way_49 : decode cX7_way 49 = .ok (.iload_n 2, 1) := by decide +kernel
theorem dX7_way_50 : decode cX7_way 50 = .ok (.ldc 181, 2) := by decide +kernel
theorem dX7_way_52 : decode cX7_way 52 = .ok (.if_icmp .ne 8, 3) := by decide +kernel
theorem dX7_way_55 : decode cX7_way 55 = .ok (.bipush (-9), 2) := by decide +kernel
theorem dX7_way_57 : decode cX7_way 57 = .ok (.goto 4, 3) := by decide +kernel
theorem dX7_way_60 : decode cX7_way 60 = .ok (.iload_n 2, 1) := by decide +kernel
theorem dX7_way_61 : decode cX7_way 61 = .ok (.ireturn, 1) := by decide +kernel
theorem dX7_way_62 : decode cX7_way 62 = .ok (.aload_n 0, 1) := by decide +kernel
theorem dX7_way_63 : decode cX7_way 63 = .ok (.aload_n 0, 1) := by decide +kernel
theorem dX7_way_64 : decode cX7_way 64 = .ok (.getfield 25, 3) := by decide +kernel
theorem dX7_way_67 : decode cX7_way 67 = .ok (.iconst 0, 1) := by decide +kernel
theorem dX7_way_68 : decode cX7_way 68 = .ok (.iaload, 1) := by decide +kernel
theorem dX7_way_69 : decode cX7_way 69 = .ok (.aload_n 0, 1) := by decide +kernel
theorem dX7_way_70 : decode cX7_way 70 = .ok (.getfield 25, 3) := by decide +kernel
theorem dX7_way_73 : decode cX7_way 73 = .ok (.iconst 1, 1) := by decide +kernel
theorem dX7_way_74 : decode cX7_way 74 = .ok (.iaload, 1) := by decide +kernel
theorem dX7_way_75 : decode cX7_way 75 = .ok (.iload_n 1, 1) := by decide +kernel
theorem dX7_way_76 : decode cX7_way 76 = .ok (.bipush (-2), 2) := by decide +kernel
theorem dX7_way_78 : decode cX7_way 78 = .ok (.if_icmp .ne 8, 3) := by decide +kernel
theorem dX7_way_81 : decode cX7_way 81 = .ok (.ldc 181, 2) := by decide +kernel
theorem dX7_way_83 : decode cX7_way 83 = .ok (.goto 4, 3) := by decide +kernel
theorem dX7_way_86 : decode cX7_way 86 = .ok (.iload_n 1, 1) := by decide +kernel
theorem dX7_way_87 : decode cX7_way 87 = .ok (.invokevirtual 198, 3) := by decide +kernel
theorem dX7_way_90 : decode cX7_way 90 = .ok (.istore_n 3, 1) := by decide +kernel
theorem dX7_way_91 : decode cX7_way 91 = .ok (.iload_n 1, 1) := by decide +kernel
theorem dX7_way_92 : decode cX7_way 92 = .ok (.bipush (-2), 2) := by decide +kernel
theorem dX7_way_94 : decode cX7_way 94 = .ok (.if_icmp .ne 10, 3) := by decide +kernel
theorem dX7_way_97 : decode cX7_way 97 = .ok (.aload_n 0, 1) := by decide +kernel
theorem dX7_way_98 : decode cX7_way 98 = .ok (.getfield 189, 3) := by decide +kernel
theorem dX7_way_101 : decode cX7_way 101 = .ok (.goto 4, 3) := by decide +kernel
theorem dX7_way_104 : decode cX7_way 104 = .ok (.iload_n 3, 1) := by decide +kernel
theorem dX7_way_105 : decode cX7_way 105 = .ok (.ireturn, 1) := by decide +kernel
theorem dX7_round_0 : decode cX7_round 0 = .ok (.aload_n 0, 1) := by decide +kernel
theorem dX7_round_1 : decode cX7_round 1 = .ok (.iconst 0, 1) := by decide +kernel
theorem dX7_round_2 : decode cX7_round 2 = .ok (.putfield 69, 3) := by decide +kernel
theorem dX7_round_5 : decode cX7_round 5 = .ok (.aload_n 0, 1) := by decide +kernel
theorem dX7_round_6 : decode cX7_round 6 = .ok (.invokevirtual 166, 3) := by decide +kernel
theorem dX7_round_9 : decode cX7_round 9 = .ok (.aload_n 0, 1) := by decide +kernel
theorem dX7_round_10 : decode cX7_round 10 = .ok (.invokevirtual 195, 3) := by decide +kernel
theorem dX7_round_13 : decode cX7_round 13 = .ok (.aload_n 0, 1) := by decide +kernel
theorem dX7_round_14 : decode cX7_round 14 = .ok (.aload_n 0, 1) := by decide +kernel
theorem dX7_round_15 : decode cX7_round 15 = .ok (.getfield 25, 3) := by decide +kernel
theorem dX7_round_18 : decode cX7_round 18 = .ok (.iconst 0, 1) := by decide +kernel
theorem dX7_round_19 : decode cX7_round 19 = .ok (.iaload, 1) := by decide +kernel
theorem dX7_round_20 : decode cX7_round 20 = .ok (.aload_n 0, 1) := by decide +kernel
theorem dX7_round_21 : decode cX7_round 21 = .ok (.getfield 25, 3) := by decide +kernel
theorem dX7_round_24 : decode cX7_round 24 = .ok (.iconst 1, 1) := by decide +kernel
theorem dX7_round_25 : decode cX7_round 25 = .ok (.iaload, 1) := by decide +kernel
theorem dX7_round_26 : decode cX7_round 26 = .ok (.invokevirtual 192, 3) := by decide +kernel
theorem dX7_round_29 : decode cX7_round 29 = .ok (.istore_n 1, 1) := by decide +kernel
theorem dX7_round_30 : decode cX7_round 30 = .ok (.iload_n 1, 1) := by decide +kernel
theorem dX7_round_31 : decode cX7_round 31 = .ok (.bipush (-9), 2) := by decide +kernel
theorem dX7_round_33 : decode cX7_round 33 = .ok (.if_icmp .ne 8, 3) := by decide +kernel
theorem dX7_round_36 : decode cX7_round 36 = .ok (.bipush (-9), 2) := by decide +kernel
theorem dX7_round_38 : decode cX7_round 38 = .ok (.goto 20, 3) := by decide +kernel
theorem dX7_round_41 : decode cX7_round 41 = .ok (.iload_n 1, 1) := by decide +kernel
theorem dX7_round_42 : decode cX7_round 42 = .ok (.aload_n 0, 1) := by decide +kernel
theorem dX7_round_43 : decode cX7_round 43 = .ok (.getfield 25, 3) := by decide +kernel
theorem dX7_round_46 : decode cX7_round 46 = .ok (.iconst 1, 1) := by decide +kernel
theorem dX7_round_47 : decode cX7_round 47 = .ok (.iaload, 1) := by decide +kernel
theorem dX7_round_48 : decode cX7_round 48 = .ok (.iconst 1, 1) := by decide +kernel
theorem dX7_round_49 : decode cX7_round 49 = .ok (.isub, 1) := by decide +kernel
theorem dX7_round_50 : decode cX7_round 50 = .ok (.if_icmp .ne 7, 3) := by decide +kernel
theorem dX7_round_53 : decode cX7_round 53 = .ok (.iconst 1, 1) := by decide +kernel
theorem dX7_round_54 : decode cX7_round 54 = .ok (.goto 4, 3) := by decide +kernel
theorem dX7_round_57 : decode cX7_round 57 = .ok (.iconst 0, 1) := by decide +kernel
theorem dX7_round_58 : decode cX7_round 58 = .ok (.ireturn, 1) := by decide +kernel
theorem dX7_on_0 : decode cX7_on 0 = .ok (.aload_n 0, 1) := by decide +kernel
theorem dX7_on_1 : decode cX7_on 1 = .ok (.iconst 0, 1) := by decide +kernel
theorem dX7_on_2 : decode cX7_on 2 = .ok (.putfield 69, 3) := by decide +kernel
theorem dX7_on_5 : decode cX7_on 5 = .ok (.aload_n 0, 1) := by decide +kernel
theorem dX7_on_6 : decode cX7_on 6 = .ok (.iload_n 1, 1) := by decide +kernel
theorem dX7_on_7 : decode cX7_on 7 = .ok (.invokevirtual 143, 3) := by decide +kernel
theorem dX7_on_10 : decode cX7_on 10 = .ok (.ifCond .ne 5, 3) := by decide +kernel
theorem dX7_on_13 : decode cX7_on 13 = .ok (.iconst (-1), 1) := by decide +kernel
theorem dX7_on_14 : decode cX7_on 14 = .ok (.ireturn, 1) := by decide +kernel
theorem dX7_on_15 : decode cX7_on 15 = .ok (.aload_n 0, 1) := by decide +kernel
theorem dX7_on_16 : decode cX7_on 16 = .ok (.invokevirtual 166, 3) := by decide +kernel
theorem dX7_on_19 : decode cX7_on 19 = .ok (.aload_n 0, 1) := by decide +kernel
theorem dX7_on_20 : decode cX7_on 20 = .ok (.getfield 163, 3) := by decide +kernel
theorem dX7_on_23 : decode cX7_on 23 = .ok (.iload_n 1, 1) := by decide +kernel
theorem dX7_on_24 : decode cX7_on 24 = .ok (.ishr, 1) := by decide +kernel
theorem dX7_on_25 : decode cX7_on 25 = .ok (.iconst 1, 1) := by decide +kernel
theorem dX7_on_26 : decode cX7_on 26 = .ok (.iand, 1) := by decide +kernel
theorem dX7_on_27 : decode cX7_on 27 = .ok (.ifCond .eq 17, 3) := by decide +kernel
theorem dX7_on_30 : decode cX7_on 30 = .ok (.aload_n 0, 1) := by decide +kernel
theorem dX7_on_31 : decode cX7_on 31 = .ok (.iload_n 1, 1) := by decide +kernel
theorem dX7_on_32 : decode cX7_on 32 = .ok (.aload_n 0, 1) := by decide +kernel
theorem dX7_on_33 : decode cX7_on 33 = .ok (.getfield 25, 3) := by decide +kernel
theorem dX7_on_36 : decode cX7_on 36 = .ok (.iconst 0, 1) := by decide +kernel
theorem dX7_on_37 : decode cX7_on 37 = .ok (.iaload, 1) := by decide +kernel
theorem dX7_on_38 : decode cX7_on 38 = .ok (.invokevirtual 146, 3) := by decide +kernel
theorem dX7_on_41 : decode cX7_on 41 = .ok (.ifCond .ne 5, 3) := by decide +kernel
theorem dX7_on_44 : decode cX7_on 44 = .ok (.iconst (-1), 1) := by decide +kernel
theorem dX7_on_45 : decode cX7_on 45 = .ok (.ireturn, 1) := by decide +kernel
theorem dX7_on_46 : decode cX7_on 46 = .ok (.aload_n 0, 1) := by decide +kernel
theorem dX7_on_47 : decode cX7_on 47 = .ok (.invokevirtual 195, 3) := by decide +kernel
theorem dX7_on_50 : decode cX7_on 50 = .ok (.aload_n 0, 1) := by decide +kernel
theorem dX7_on_51 : decode cX7_on 51 = .ok (.aload_n 0, 1) := by decide +kernel
theorem dX7_on_52 : decode cX7_on 52 = .ok (.getfield 25, 3) := by decide +kernel
theorem dX7_on_55 : decode cX7_on 55 = .ok (.iconst 0, 1) := by decide +kernel
theorem dX7_on_56 : decode cX7_on 56 = .ok (.iaload, 1) := by decide +kernel
theorem dX7_on_57 : decode cX7_on 57 = .ok (.aload_n 0, 1) := by decide +kernel
theorem dX7_on_58 : decode cX7_on 58 = .ok (.getfield 25, 3) := by decide +kernel
theorem dX7_on_61 : decode cX7_on 61 = .ok (.iconst 1, 1) := by decide +kernel
theorem dX7_on_62 : decode cX7_on 62 = .ok (.iaload, 1) := by decide +kernel
theorem dX7_on_63 : decode cX7_on 63 = .ok (.iload_n 1, 1) := by decide +kernel
theorem dX7_on_64 : decode cX7_on 64 = .ok (.invokevirtual 182, 3) := by decide +kernel
theorem dX7_on_67 : decode cX7_on 67 = .ok (.istore_n 2, 1) := by decide +kernel
theorem dX7_on_68 : decode cX7_on 68 = .ok (.iload_n 2, 1) := by decide +kernel
theorem dX7_on_69 : decode cX7_on 69 = .ok (.ldc 181, 2) := by decide +kernel
theorem dX7_on_71 : decode cX7_on 71 = .ok (.if_icmp .ne 8, 3) := by decide +kernel
theorem dX7_on_74 : decode cX7_on 74 = .ok (.bipush (-9), 2) := by decide +kernel
theorem dX7_on_76 : decode cX7_on 76 = .ok (.goto 4, 3) := by decide +kernel
theorem dX7_on_79 : decode cX7_on 79 = .ok (.iload_n 2, 1) := by decide +kernel
theorem dX7_on_80 : decode cX7_on 80 = .ok (.ireturn, 1) := by decide +kernel
theorem dX7_worst_0 : decode cX7_worst 0 = .ok (.aload_n 0, 1) := by decide +kernel
theorem dX7_worst_1 : decode cX7_worst 1 = .ok (.iconst 0, 1) := by decide +kernel
theorem dX7_worst_2 : decode cX7_worst 2 = .ok (.putfield 69, 3) := by decide +kernel
theorem dX7_worst_5 : decode cX7_worst 5 = .ok (.iload_n 1, 1) := by decide +kernel
theorem dX7_worst_6 : decode cX7_worst 6 = .ok (.iconst 0, 1) := by decide +kernel
theorem dX7_worst_7 : decode cX7_worst 7 = .ok (.iconst 1, 1) := by decide +kernel
theorem dX7_worst_8 : decode cX7_worst 8 = .ok (.invokestatic 73, 3) := by decide +kernel
theorem dX7_worst_11 : decode cX7_worst 11 = .ok (.ifCond .ne 5, 3) := by decide +kernel
theorem dX7_worst_14 : decode cX7_worst 14 = .ok (.iconst (-1), 1) := by decide +kernel
theorem dX7_worst_15 : decode cX7_worst 15 = .ok (.ireturn, 1) := by decide +kernel
theorem dX7_worst_16 : decode cX7_worst 16 = .ok (.aload_n 0, 1) := by decide +kernel
theorem dX7_worst_17 : decode cX7_worst 17 = .ok (.invokevirtual 166, 3) := by decide +kernel
theorem dX7_worst_20 : decode cX7_worst 20 = .ok (.aload_n 0, 1) := by decide +kernel
theorem dX7_worst_21 : decode cX7_worst 21 = .ok (.invokevirtual 195, 3) := by decide +kernel
theorem dX7_worst_24 : decode cX7_worst 24 = .ok (.bipush (-9), 2) := by decide +kernel
theorem dX7_worst_26 : decode cX7_worst 26 = .ok (.istore_n 2, 1) := by decide +kernel
theorem dX7_worst_27 : decode cX7_worst 27 = .ok (.iconst (-1), 1) := by decide +kernel
theorem dX7_worst_28 : decode cX7_worst 28 = .ok (.istore_n 3, 1) := by decide +kernel
theorem dX7_worst_29 : decode cX7_worst 29 = .ok (.aload_n 0, 1) := by decide +kernel
theorem dX7_worst_30 : decode cX7_worst 30 = .ok (.getfield 163, 3) := by decide +kernel
theorem dX7_worst_33 : decode cX7_worst 33 = .ok (.istore 4, 2) := by decide +kernel
theorem dX7_worst_35 : decode cX7_worst 35 = .ok (.aload_n 0, 1) := by decide +kernel
theorem dX7_worst_36 : decode cX7_worst 36 = .ok (.aload_n 0, 1) := by decide +kernel
theorem dX7_worst_37 : decode cX7_worst 37 = .ok (.getfield 25, 3) := by decide +kernel
theorem dX7_worst_40 : decode cX7_worst 40 = .ok (.iconst 0, 1) := by decide +kernel
theorem dX7_worst_41 : decode cX7_worst 41 = .ok (.iaload, 1) := by decide +kernel
theorem dX7_worst_42 : decode cX7_worst 42 = .ok (.aload_n 0, 1) := by decide +kernel
theorem dX7_worst_43 : decode cX7_worst 43 = .ok (.getfield 25, 3) := by decide +kernel
theorem dX7_worst_46 : decode cX7_worst 46 = .ok (.iconst 1, 1) := by decide +kernel
theorem dX7_worst_47 : decode cX7_worst 47 = .ok (.iaload, 1) := by decide +kernel
theorem dX7_worst_48 : decode cX7_worst 48 = .ok (.invokevirtual 186, 3) := by decide +kernel
theorem dX7_worst_51 : decode cX7_worst 51 = .ok (.ldc 181, 2) := by decide +kernel
theorem dX7_worst_53 : decode cX7_worst 53 = .ok (.if_icmp .ne 6, 3) := by decide +kernel
theorem dX7_worst_56 : decode cX7_worst 56 = .ok (.bipush (-9), 2) := by decide +kernel
theorem dX7_worst_58 : decode cX7_worst 58 = .ok (.ireturn, 1) := by decide +kernel
theorem dX7_worst_59 : decode cX7_worst 59 = .ok (.iconst 0, 1) := by decide +kernel
theorem dX7_worst_60 : decode cX7_worst 60 = .ok (.istore 5, 2) := by decide +kernel
theorem dX7_worst_62 : decode cX7_worst 62 = .ok (.iload 5, 2) := by decide +kernel
theorem dX7_worst_64 : decode cX7_worst 64 = .ok (.aload_n 0, 1) := by decide +kernel
theorem dX7_worst_65 : decode cX7_worst 65 = .ok (.getfield 13, 3) := by decide +kernel
theorem dX7_worst_68 : decode cX7_worst 68 = .ok (.iconst 1, 1) := by decide +kernel
theorem dX7_worst_69 : decode cX7_worst 69 = .ok (.iaload, 1) := by decide +kernel
theorem dX7_worst_70 : decode cX7_worst 70 = .ok (.if_icmp .ge 81, 3) := by decide +kernel
theorem dX7_worst_73 : decode cX7_worst 73 = .ok (.iload 4, 2) := by decide +kernel
theorem dX7_worst_75 : decode cX7_worst 75 = .ok (.iload 5, 2) := by decide +kernel
theorem dX7_worst_77 : decode cX7_worst 77 = .ok (.ishr, 1) := by decide +kernel
theorem dX7_worst_78 : decode cX7_worst 78 = .ok (.iconst 1, 1) := by decide +kernel
theorem dX7_worst_79 : decode cX7_worst 79 = .ok (.iand, 1) := by decide +kernel
theorem dX7_worst_80 : decode cX7_worst 80 = .ok (.iconst 1, 1) := by decide +kernel
theorem dX7_worst_81 : decode cX7_worst 81 = .ok (.if_icmp .ne 64, 3) := by decide +kernel
theorem dX7_worst_84 : decode cX7_worst 84 = .ok (.aload_n 0, 1) := by decide +kernel
theorem dX7_worst_85 : decode cX7_worst 85 = .ok (.iload 4, 2) := by decide +kernel
theorem dX7_worst_87 : decode cX7_worst 87 = .ok (.iconst 1, 1) := by decide +kernel
theorem dX7_worst_88 : decode cX7_worst 88 = .ok (.iload 5, 2) := by decide +kernel
theorem dX7_worst_90 : decode cX7_worst 90 = .ok (.ishl, 1) := by decide +kernel
theorem dX7_worst_91 : decode cX7_worst 91 = .ok (.iconst (-1), 1) := by decide +kernel
theorem dX7_worst_92 : decode cX7_worst 92 = .ok (.ixor, 1) := by decide +kernel
theorem dX7_worst_93 : decode cX7_worst 93 = .ok (.iand, 1) := by decide +kernel
theorem dX7_worst_94 : decode cX7_worst 94 = .ok (.putfield 163, 3) := by decide +kernel
theorem dX7_worst_97 : decode cX7_worst 97 = .ok (.aload_n 0, 1) := by decide +kernel
theorem dX7_worst_98 : decode cX7_worst 98 = .ok (.invokevirtual 195, 3) := by decide +kernel
theorem dX7_worst_101 : decode cX7_worst 101 = .ok (.aload_n 0, 1) := by decide +kernel
theorem dX7_worst_102 : decode cX7_worst 102 = .ok (.aload_n 0, 1) := by decide +kernel
theorem dX7_worst_103 : decode cX7_worst 103 = .ok (.getfield 25, 3) := by decide +kernel
theorem dX7_worst_106 : decode cX7_worst 106 = .ok (.iconst 0, 1) := by decide +kernel
theorem dX7_worst_107 : decode cX7_worst 107 = .ok (.iaload, 1) := by decide +kernel
theorem dX7_worst_108 : decode cX7_worst 108 = .ok (.aload_n 0, 1) := by decide +kernel
theorem dX7_worst_109 : decode cX7_worst 109 = .ok (.getfield 25, 3) := by decide +kernel
theorem dX7_worst_112 : decode cX7_worst 112 = .ok (.iconst 1, 1) := by decide +kernel
theorem dX7_worst_113 : decode cX7_worst 113 = .ok (.iaload, 1) := by decide +kernel
theorem dX7_worst_114 : decode cX7_worst 114 = .ok (.invokevirtual 186, 3) := by decide +kernel
theorem dX7_worst_117 : decode cX7_worst 117 = .ok (.istore 6, 2) := by decide +kernel
theorem dX7_worst_119 : decode cX7_worst 119 = .ok (.iload 6, 2) := by decide +kernel
theorem dX7_worst_121 : decode cX7_worst 121 = .ok (.iload_n 3, 1) := by decide +kernel
theorem dX7_worst_122 : decode cX7_worst 122 = .ok (.if_icmp .le 8, 3) := by decide +kernel
theorem dX7_worst_125 : decode cX7_worst 125 = .ok (.iload 5, 2) := by decide +kernel
theorem dX7_worst_127 : decode cX7_worst 127 = .ok (.goto 4, 3) := by decide +kernel
theorem dX7_worst_130 : decode cX7_worst 130 = .ok (.iload_n 2, 1) := by decide +kernel
theorem dX7_worst_131 : decode cX7_worst 131 = .ok (.istore_n 2, 1) := by decide +kernel
theorem dX7_worst_132 : decode cX7_worst 132 = .ok (.iload 6, 2) := by decide +kernel
theorem dX7_worst_134 : decode cX7_worst 134 = .ok (.iload_n 3, 1) := by decide +kernel
theorem dX7_worst_135 : decode cX7_worst 135 = .ok (.if_icmp .le 8, 3) := by decide +kernel
theorem dX7_worst_138 : decode cX7_worst 138 = .ok (.iload 6, 2) := by decide +kernel
theorem dX7_worst_140 : decode cX7_worst 140 = .ok (.goto 4, 3) := by decide +kernel
theorem dX7_worst_143 : decode cX7_worst 143 = .ok (.iload_n 3, 1) := by decide +kernel
theorem dX7_worst_144 : decode cX7_worst 144 = .ok (.istore_n 3, 1) := by decide +kernel
theorem dX7_worst_145 : decode cX7_worst 145 = .ok (.iinc 5 1, 3) := by decide +kernel
theorem dX7_worst_148 : decode cX7_worst 148 = .ok (.goto (-86), 3) := by decide +kernel
theorem dX7_worst_151 : decode cX7_worst 151 = .ok (.iload_n 2, 1) := by decide +kernel
theorem dX7_worst_152 : decode cX7_worst 152 = .ok (.bipush (-9), 2) := by decide +kernel
theorem dX7_worst_154 : decode cX7_worst 154 = .ok (.if_icmp .eq 7, 3) := by decide +kernel
theorem dX7_worst_157 : decode cX7_worst 157 = .ok (.iload_n 1, 1) := by decide +kernel
theorem dX7_worst_158 : decode cX7_worst 158 = .ok (.ifCond .ne 7, 3) := by decide +kernel
theorem dX7_worst_161 : decode cX7_worst 161 = .ok (.iload_n 2, 1) := by decide +kernel
theorem dX7_worst_162 : decode cX7_worst 162 = .ok (.goto 15, 3) := by decide +kernel
theorem dX7_worst_165 : decode cX7_worst 165 = .ok (.iload_n 3, 1) := by decide +kernel
theorem dX7_worst_166 : decode cX7_worst 166 = .ok (.ldc 181, 2) := by decide +kernel
theorem dX7_worst_168 : decode cX7_worst 168 = .ok (.if_icmp .ne 8, 3) := by decide +kernel
theorem dX7_worst_171 : decode cX7_worst 171 = .ok (.bipush (-5), 2) := by decide +kernel
theorem dX7_worst_173 : decode cX7_worst 173 = .ok (.goto 4, 3) := by decide +kernel
theorem dX7_worst_176 : decode cX7_worst 176 = .ok (.iload_n 3, 1) := by decide +kernel
theorem dX7_worst_177 : decode cX7_worst 177 = .ok (.ireturn, 1) := by decide +kernel
theorem dX7_plans_0 : decode cX7_plans 0 = .ok (.aload_n 0, 1) := by decide +kernel
theorem dX7_plans_1 : decode cX7_plans 1 = .ok (.iconst 0, 1) := by decide +kernel
theorem dX7_plans_2 : decode cX7_plans 2 = .ok (.putfield 69, 3) := by decide +kernel
theorem dX7_plans_5 : decode cX7_plans 5 = .ok (.aload_n 0, 1) := by decide +kernel
theorem dX7_plans_6 : decode cX7_plans 6 = .ok (.iload_n 1, 1) := by decide +kernel
theorem dX7_plans_7 : decode cX7_plans 7 = .ok (.invokevirtual 143, 3) := by decide +kernel
theorem dX7_plans_10 : decode cX7_plans 10 = .ok (.ifCond .ne 5, 3) := by decide +kernel
theorem dX7_plans_13 : decode cX7_plans 13 = .ok (.iconst (-1), 1) := by decide +kernel
theorem dX7_plans_14 : decode cX7_plans 14 = .ok (.ireturn, 1) := by decide +kernel
theorem dX7_plans_15 : decode cX7_plans 15 = .ok (.aload_n 0, 1) := by decide +kernel
theorem dX7_plans_16 : decode cX7_plans 16 = .ok (.getfield 134, 3) := by decide +kernel
theorem dX7_plans_19 : decode cX7_plans 19 = .ok (.bipush 8, 2) := by decide +kernel
theorem dX7_plans_21 : decode cX7_plans 21 = .ok (.if_icmp .ne 6, 3) := by decide +kernel
theorem dX7_plans_24 : decode cX7_plans 24 = .ok (.bipush (-3), 2) := by decide +kernel
theorem dX7_plans_26 : decode cX7_plans 26 = .ok (.ireturn, 1) := by decide +kernel
theorem dX7_plans_27 : decode cX7_plans 27 = .ok (.aload_n 0, 1) := by decide +kernel
theorem dX7_plans_28 : decode cX7_plans 28 = .ok (.getfield 38, 3) := by decide +kernel
theorem dX7_plans_31 : decode cX7_plans 31 = .ok (.aload_n 0, 1) := by decide +kernel
theorem dX7_plans_32 : decode cX7_plans 32 = .ok (.getfield 134, 3) := by decide +kernel
theorem dX7_plans_35 : decode cX7_plans 35 = .ok (.iload_n 1, 1) := by decide +kernel
theorem dX7_plans_36 : decode cX7_plans 36 = .ok (.iastore, 1) := by decide +kernel
theorem dX7_plans_37 : decode cX7_plans 37 = .ok (.aload_n 0, 1) := by decide +kernel
theorem dX7_plans_38 : decode cX7_plans 38 = .ok (.dup, 1) := by decide +kernel
theorem dX7_plans_39 : decode cX7_plans 39 = .ok (.getfield 134, 3) := by decide +kernel
theorem dX7_plans_42 : decode cX7_plans 42 = .ok (.iconst 1, 1) := by decide +kernel
theorem dX7_plans_43 : decode cX7_plans 43 = .ok (.iadd, 1) := by decide +kernel
theorem dX7_plans_44 : decode cX7_plans 44 = .ok (.putfield 134, 3) := by decide +kernel
theorem dX7_plans_47 : decode cX7_plans 47 = .ok (.aload_n 0, 1) := by decide +kernel
theorem dX7_plans_48 : decode cX7_plans 48 = .ok (.getfield 134, 3) := by decide +kernel
theorem dX7_plans_51 : decode cX7_plans 51 = .ok (.ireturn, 1) := by decide +kernel
theorem dX7_drops_0 : decode cX7_drops 0 = .ok (.aload_n 0, 1) := by decide +kernel
theorem dX7_drops_1 : decode cX7_drops 1 = .ok (.iconst 0, 1) := by decide +kernel
theorem dX7_drops_2 : decode cX7_drops 2 = .ok (.putfield 69, 3) := by decide +kernel
theorem dX7_drops_5 : decode cX7_drops 5 = .ok (.aload_n 0, 1) := by decide +kernel
theorem dX7_drops_6 : decode cX7_drops 6 = .ok (.getfield 134, 3) := by decide +kernel
theorem dX7_drops_9 : decode cX7_drops 9 = .ok (.istore_n 1, 1) := by decide +kernel
theorem dX7_drops_10 : decode cX7_drops 10 = .ok (.aload_n 0, 1) := by decide +kernel
theorem dX7_drops_11 : decode cX7_drops 11 = .ok (.iconst 0, 1) := by decide +kernel
theorem dX7_drops_12 : decode cX7_drops 12 = .ok (.putfield 134, 3) := by decide +kernel
theorem dX7_drops_15 : decode cX7_drops 15 = .ok (.iload_n 1, 1) := by decide +kernel
theorem dX7_drops_16 : decode cX7_drops 16 = .ok (.ireturn, 1) := by decide +kernel
theorem dX7_his_0 : decode cX7_his 0 = .ok (.aload_n 0, 1) := by decide +kernel
theorem dX7_his_1 : decode cX7_his 1 = .ok (.iconst 0, 1) := by decide +kernel
theorem dX7_his_2 : decode cX7_his 2 = .ok (.putfield 69, 3) := by decide +kernel
theorem dX7_his_5 : decode cX7_his 5 = .ok (.iload_n 1, 1) := by decide +kernel
theorem dX7_his_6 : decode cX7_his 6 = .ok (.iconst 0, 1) := by decide +kernel
theorem dX7_his_7 : decode cX7_his 7 = .ok (.iconst 1, 1) := by decide +kernel
theorem dX7_his_8 : decode cX7_his 8 = .ok (.invokestatic 73, 3) := by decide +kernel
theorem dX7_his_11 : decode cX7_his 11 = .ok (.ifCond .ne 5, 3) := by decide +kernel
theorem dX7_his_14 : decode cX7_his 14 = .ok (.iconst (-1), 1) := by decide +kernel
theorem dX7_his_15 : decode cX7_his 15 = .ok (.ireturn, 1) := by decide +kernel
theorem dX7_his_16 : decode cX7_his 16 = .ok (.aload_n 0, 1) := by decide +kernel
theorem dX7_his_17 : decode cX7_his 17 = .ok (.invokevirtual 166, 3) := by decide +kernel
theorem dX7_his_20 : decode cX7_his 20 = .ok (.aload_n 0, 1) := by decide +kernel
theorem dX7_his_21 : decode cX7_his 21 = .ok (.invokevirtual 195, 3) := by decide +kernel
theorem dX7_his_24 : decode cX7_his 24 = .ok (.aload_n 0, 1) := by decide +kernel
theorem dX7_his_25 : decode cX7_his 25 = .ok (.getfield 25, 3) := by decide +kernel
theorem dX7_his_28 : decode cX7_his 28 = .ok (.iconst 0, 1) := by decide +kernel
theorem dX7_his_29 : decode cX7_his 29 = .ok (.iaload, 1) := by decide +kernel
theorem dX7_his_30 : decode cX7_his 30 = .ok (.istore_n 2, 1) := by decide +kernel
theorem dX7_his_31 : decode cX7_his 31 = .ok (.aload_n 0, 1) := by decide +kernel
theorem dX7_his_32 : decode cX7_his 32 = .ok (.getfield 25, 3) := by decide +kernel
theorem dX7_his_35 : decode cX7_his 35 = .ok (.iconst 1, 1) := by decide +kernel
theorem dX7_his_36 : decode cX7_his 36 = .ok (.iaload, 1) := by decide +kernel
theorem dX7_his_37 : decode cX7_his 37 = .ok (.istore_n 3, 1) := by decide +kernel
theorem dX7_his_38 : decode cX7_his 38 = .ok (.iconst 0, 1) := by decide +kernel
theorem dX7_his_39 : decode cX7_his 39 = .ok (.istore 4, 2) := by decide +kernel
theorem dX7_his_41 : decode cX7_his 41 = .ok (.iconst 0, 1) := by decide +kernel
theorem dX7_his_42 : decode cX7_his 42 = .ok (.istore 5, 2) := by decide +kernel
theorem dX7_his_44 : decode cX7_his 44 = .ok (.iload 5, 2) := by decide +kernel
theorem dX7_his_46 : decode cX7_his 46 = .ok (.aload_n 0, 1) := by decide +kernel
theorem dX7_his_47 : decode cX7_his 47 = .ok (.getfield 134, 3) := by decide +kernel
theorem dX7_his_50 : decode cX7_his 50 = .ok (.if_icmp .ge 82, 3) := by decide +kernel
theorem dX7_his_53 : decode cX7_his 53 = .ok (.aload_n 0, 1) := by decide +kernel
theorem dX7_his_54 : decode cX7_his 54 = .ok (.getfield 163, 3) := by decide +kernel
theorem dX7_his_57 : decode cX7_his 57 = .ok (.aload_n 0, 1) := by decide +kernel
theorem dX7_his_58 : decode cX7_his 58 = .ok (.getfield 38, 3) := by decide +kernel
theorem dX7_his_61 : decode cX7_his 61 = .ok (.iload 5, 2) := by decide +kernel
theorem dX7_his_63 : decode cX7_his 63 = .ok (.iaload, 1) := by decide +kernel
theorem dX7_his_64 : decode cX7_his 64 = .ok (.ishr, 1) := by decide +kernel
theorem dX7_his_65 : decode cX7_his 65 = .ok (.iconst 1, 1) := by decide +kernel
theorem dX7_his_66 : decode cX7_his 66 = .ok (.iand, 1) := by decide +kernel
theorem dX7_his_67 : decode cX7_his 67 = .ok (.iconst 1, 1) := by decide +kernel
theorem dX7_his_68 : decode cX7_his 68 = .ok (.if_icmp .ne 64, 3) := by decide +kernel
theorem dX7_his_71 : decode cX7_his 71 = .ok (.aload_n 0, 1) := by decide +kernel
theorem dX7_his_72 : decode cX7_his 72 = .ok (.aload_n 0, 1) := by decide +kernel
theorem dX7_his_73 : decode cX7_his 73 = .ok (.getfield 38, 3) := by decide +kernel
theorem dX7_his_76 : decode cX7_his 76 = .ok (.iload 5, 2) := by decide +kernel
theorem dX7_his_78 : decode cX7_his 78 = .ok (.iaload, 1) := by decide +kernel
theorem dX7_his_79 : decode cX7_his 79 = .ok (.iload_n 2, 1) := by decide +kernel
theorem dX7_his_80 : decode cX7_his 80 = .ok (.invokevirtual 146, 3) := by decide +kernel
theorem dX7_his_83 : decode cX7_his 83 = .ok (.ifCond .eq 49, 3) := by decide +kernel
theorem dX7_his_86 : decode cX7_his 86 = .ok (.iload 4, 2) := by decide +kernel
theorem dX7_his_88 : decode cX7_his 88 = .ok (.aload_n 0, 1) := by decide +kernel
theorem dX7_his_89 : decode cX7_his 89 = .ok (.iload_n 3, 1) := by decide +kernel
theorem dX7_his_90 : decode cX7_his 90 = .ok (.aload_n 0, 1) := by decide +kernel
theorem dX7_his_91 : decode cX7_his 91 = .ok (.getfield 38, 3) := by decide +kernel
theorem dX7_his_94 : decode cX7_his 94 = .ok (.iload 5, 2) := by decide +kernel
theorem dX7_his_96 : decode cX7_his 96 = .ok (.iaload, 1) := by decide +kernel
theorem dX7_his_97 : decode cX7_his 97 = .ok (.invokevirtual 169, 3) := by decide +kernel
theorem dX7_his_100 : decode cX7_his 100 = .ok (.iadd, 1) := by decide +kernel
theorem dX7_his_101 : decode cX7_his 101 = .ok (.istore 4, 2) := by decide +kernel
theorem dX7_his_103 : decode cX7_his 103 = .ok (.aload_n 0, 1) := by decide +kernel
theorem dX7_his_104 : decode cX7_his 104 = .ok (.aload_n 0, 1) := by decide +kernel
end
section
theorem dX7_his_105 : decode cX7_his 105 = .ok (.getfield 38, 3) := by decide +kernel
theorem dX7_his_108 : decode cX7_his 108 = .ok (.iload 5, 2) := by decide +kernel
theorem dX7_his_110 : decode cX7_his 110 = .ok (.iaload, 1) := by decide +kernel
theorem dX7_his_111 : decode cX7_his 111 = .ok (.iload_n 2, 1) := by decide +kernel
theorem dX7_his_112 : decode cX7_his 112 = .ok (.invokevirtual 175, 3) := by decide +kernel
theorem dX7_his_115 : decode cX7_his 115 = .ok (.istore_n 2, 1) := by decide +kernel
theorem dX7_his_116 : decode cX7_his 116 = .ok (.aload_n 0, 1) := by decide +kernel
theorem dX7_his_117 : decode cX7_his 117 = .ok (.getfield 38, 3) := by decide +kernel
theorem dX7_his_120 : decode cX7_his 120 = .ok (.iload 5, 2) := by decide +kernel
theorem dX7_his_122 : decode cX7_his 122 = .ok (.iaload, 1) := by decide +kernel
theorem dX7_his_123 : decode cX7_his 123 = .ok (.iconst 1, 1) := by decide +kernel
theorem dX7_his_124 : decode cX7_his 124 = .ok (.iadd, 1) := by decide +kernel
theorem dX7_his_125 : decode cX7_his 125 = .ok (.istore_n 3, 1) := by decide +kernel
theorem dX7_his_126 : decode cX7_his 126 = .ok (.iinc 5 1, 3) := by decide +kernel
theorem dX7_his_129 : decode cX7_his 129 = .ok (.goto (-85), 3) := by decide +kernel
theorem dX7_his_132 : decode cX7_his 132 = .ok (.aload_n 0, 1) := by decide +kernel
theorem dX7_his_133 : decode cX7_his 133 = .ok (.iload_n 2, 1) := by decide +kernel
theorem dX7_his_134 : decode cX7_his 134 = .ok (.iload_n 3, 1) := by decide +kernel
theorem dX7_his_135 : decode cX7_his 135 = .ok (.invokevirtual 186, 3) := by decide +kernel
theorem dX7_his_138 : decode cX7_his 138 = .ok (.istore 6, 2) := by decide +kernel
theorem dX7_his_140 : decode cX7_his 140 = .ok (.iload_n 1, 1) := by decide +kernel
theorem dX7_his_141 : decode cX7_his 141 = .ok (.iconst 1, 1) := by decide +kernel
theorem dX7_his_142 : decode cX7_his 142 = .ok (.if_icmp .ne 8, 3) := by decide +kernel
theorem dX7_his_145 : decode cX7_his 145 = .ok (.iload 5, 2) := by decide +kernel
theorem dX7_his_147 : decode cX7_his 147 = .ok (.goto 20, 3) := by decide +kernel
theorem dX7_his_150 : decode cX7_his 150 = .ok (.iload 6, 2) := by decide +kernel
theorem dX7_his_152 : decode cX7_his 152 = .ok (.ldc 181, 2) := by decide +kernel
theorem dX7_his_154 : decode cX7_his 154 = .ok (.if_icmp .ne 8, 3) := by decide +kernel
theorem dX7_his_157 : decode cX7_his 157 = .ok (.bipush (-9), 2) := by decide +kernel
theorem dX7_his_159 : decode cX7_his 159 = .ok (.goto 8, 3) := by decide +kernel
theorem dX7_his_162 : decode cX7_his 162 = .ok (.iload 4, 2) := by decide +kernel
theorem dX7_his_164 : decode cX7_his 164 = .ok (.iload 6, 2) := by decide +kernel
theorem dX7_his_166 : decode cX7_his 166 = .ok (.iadd, 1) := by decide +kernel
theorem dX7_his_167 : decode cX7_his 167 = .ok (.ireturn, 1) := by decide +kernel
theorem dX7_cars_0 : decode cX7_cars 0 = .ok (.aload_n 0, 1) := by decide +kernel
theorem dX7_cars_1 : decode cX7_cars 1 = .ok (.iconst 0, 1) := by decide +kernel
theorem dX7_cars_2 : decode cX7_cars 2 = .ok (.putfield 69, 3) := by decide +kernel
theorem dX7_cars_5 : decode cX7_cars 5 = .ok (.iload_n 1, 1) := by decide +kernel
theorem dX7_cars_6 : decode cX7_cars 6 = .ok (.iconst 0, 1) := by decide +kernel
theorem dX7_cars_7 : decode cX7_cars 7 = .ok (.bipush 20, 2) := by decide +kernel
theorem dX7_cars_9 : decode cX7_cars 9 = .ok (.invokestatic 73, 3) := by decide +kernel
theorem dX7_cars_12 : decode cX7_cars 12 = .ok (.ifCond .eq 12, 3) := by decide +kernel
theorem dX7_cars_15 : decode cX7_cars 15 = .ok (.iload_n 2, 1) := by decide +kernel
theorem dX7_cars_16 : decode cX7_cars 16 = .ok (.iconst 0, 1) := by decide +kernel
theorem dX7_cars_17 : decode cX7_cars 17 = .ok (.iconst 1, 1) := by decide +kernel
theorem dX7_cars_18 : decode cX7_cars 18 = .ok (.invokestatic 73, 3) := by decide +kernel
theorem dX7_cars_21 : decode cX7_cars 21 = .ok (.ifCond .ne 5, 3) := by decide +kernel
theorem dX7_cars_24 : decode cX7_cars 24 = .ok (.iconst (-1), 1) := by decide +kernel
theorem dX7_cars_25 : decode cX7_cars 25 = .ok (.ireturn, 1) := by decide +kernel
theorem dX7_cars_26 : decode cX7_cars 26 = .ok (.aload_n 0, 1) := by decide +kernel
theorem dX7_cars_27 : decode cX7_cars 27 = .ok (.invokevirtual 166, 3) := by decide +kernel
theorem dX7_cars_30 : decode cX7_cars 30 = .ok (.aload_n 0, 1) := by decide +kernel
theorem dX7_cars_31 : decode cX7_cars 31 = .ok (.invokevirtual 195, 3) := by decide +kernel
theorem dX7_cars_34 : decode cX7_cars 34 = .ok (.aload_n 0, 1) := by decide +kernel
theorem dX7_cars_35 : decode cX7_cars 35 = .ok (.aload_n 0, 1) := by decide +kernel
theorem dX7_cars_36 : decode cX7_cars 36 = .ok (.getfield 13, 3) := by decide +kernel
theorem dX7_cars_39 : decode cX7_cars 39 = .ok (.iconst 2, 1) := by decide +kernel
theorem dX7_cars_40 : decode cX7_cars 40 = .ok (.iaload, 1) := by decide +kernel
theorem dX7_cars_41 : decode cX7_cars 41 = .ok (.iconst 0, 1) := by decide +kernel
theorem dX7_cars_42 : decode cX7_cars 42 = .ok (.invokevirtual 186, 3) := by decide +kernel
theorem dX7_cars_45 : decode cX7_cars 45 = .ok (.istore_n 3, 1) := by decide +kernel
theorem dX7_cars_46 : decode cX7_cars 46 = .ok (.iload_n 3, 1) := by decide +kernel
theorem dX7_cars_47 : decode cX7_cars 47 = .ok (.ldc 181, 2) := by decide +kernel
theorem dX7_cars_49 : decode cX7_cars 49 = .ok (.if_icmp .ne 6, 3) := by decide +kernel
theorem dX7_cars_52 : decode cX7_cars 52 = .ok (.bipush (-9), 2) := by decide +kernel
theorem dX7_cars_54 : decode cX7_cars 54 = .ok (.ireturn, 1) := by decide +kernel
theorem dX7_cars_55 : decode cX7_cars 55 = .ok (.iload_n 2, 1) := by decide +kernel
theorem dX7_cars_56 : decode cX7_cars 56 = .ok (.iconst 1, 1) := by decide +kernel
theorem dX7_cars_57 : decode cX7_cars 57 = .ok (.if_icmp .ne 74, 3) := by decide +kernel
theorem dX7_cars_60 : decode cX7_cars 60 = .ok (.aload_n 0, 1) := by decide +kernel
theorem dX7_cars_61 : decode cX7_cars 61 = .ok (.aload_n 0, 1) := by decide +kernel
theorem dX7_cars_62 : decode cX7_cars 62 = .ok (.getfield 13, 3) := by decide +kernel
theorem dX7_cars_65 : decode cX7_cars 65 = .ok (.iconst 2, 1) := by decide +kernel
theorem dX7_cars_66 : decode cX7_cars 66 = .ok (.iaload, 1) := by decide +kernel
theorem dX7_cars_67 : decode cX7_cars 67 = .ok (.iconst 0, 1) := by decide +kernel
theorem dX7_cars_68 : decode cX7_cars 68 = .ok (.ldc 181, 2) := by decide +kernel
theorem dX7_cars_70 : decode cX7_cars 70 = .ok (.invokevirtual 198, 3) := by decide +kernel
theorem dX7_cars_73 : decode cX7_cars 73 = .ok (.pop, 1) := by decide +kernel
theorem dX7_cars_74 : decode cX7_cars 74 = .ok (.iconst 0, 1) := by decide +kernel
theorem dX7_cars_75 : decode cX7_cars 75 = .ok (.istore 4, 2) := by decide +kernel
theorem dX7_cars_77 : decode cX7_cars 77 = .ok (.iconst 0, 1) := by decide +kernel
theorem dX7_cars_78 : decode cX7_cars 78 = .ok (.istore 5, 2) := by decide +kernel
theorem dX7_cars_80 : decode cX7_cars 80 = .ok (.iload 5, 2) := by decide +kernel
theorem dX7_cars_82 : decode cX7_cars 82 = .ok (.bipush 12, 2) := by decide +kernel
theorem dX7_cars_84 : decode cX7_cars 84 = .ok (.if_icmp .ge 40, 3) := by decide +kernel
theorem dX7_cars_87 : decode cX7_cars 87 = .ok (.iload 4, 2) := by decide +kernel
theorem dX7_cars_89 : decode cX7_cars 89 = .ok (.aload_n 0, 1) := by decide +kernel
theorem dX7_cars_90 : decode cX7_cars 90 = .ok (.getfield 53, 3) := by decide +kernel
theorem dX7_cars_93 : decode cX7_cars 93 = .ok (.iload 5, 2) := by decide +kernel
theorem dX7_cars_95 : decode cX7_cars 95 = .ok (.iaload, 1) := by decide +kernel
theorem dX7_cars_96 : decode cX7_cars 96 = .ok (.aload_n 0, 1) := by decide +kernel
theorem dX7_cars_97 : decode cX7_cars 97 = .ok (.getfield 53, 3) := by decide +kernel
theorem dX7_cars_100 : decode cX7_cars 100 = .ok (.iload 5, 2) := by decide +kernel
theorem dX7_cars_102 : decode cX7_cars 102 = .ok (.iaload, 1) := by decide +kernel
theorem dX7_cars_103 : decode cX7_cars 103 = .ok (.imul, 1) := by decide +kernel
theorem dX7_cars_104 : decode cX7_cars 104 = .ok (.aload_n 0, 1) := by decide +kernel
theorem dX7_cars_105 : decode cX7_cars 105 = .ok (.getfield 13, 3) := by decide +kernel
theorem dX7_cars_108 : decode cX7_cars 108 = .ok (.iconst 5, 1) := by decide +kernel
theorem dX7_cars_109 : decode cX7_cars 109 = .ok (.iaload, 1) := by decide +kernel
theorem dX7_cars_110 : decode cX7_cars 110 = .ok (.imul, 1) := by decide +kernel
theorem dX7_cars_111 : decode cX7_cars 111 = .ok (.iload_n 1, 1) := by decide +kernel
theorem dX7_cars_112 : decode cX7_cars 112 = .ok (.iconst 1, 1) := by decide +kernel
theorem dX7_cars_113 : decode cX7_cars 113 = .ok (.isub, 1) := by decide +kernel
theorem dX7_cars_114 : decode cX7_cars 114 = .ok (.imul, 1) := by decide +kernel
theorem dX7_cars_115 : decode cX7_cars 115 = .ok (.iadd, 1) := by decide +kernel
theorem dX7_cars_116 : decode cX7_cars 116 = .ok (.istore 4, 2) := by decide +kernel
theorem dX7_cars_118 : decode cX7_cars 118 = .ok (.iinc 5 1, 3) := by decide +kernel
theorem dX7_cars_121 : decode cX7_cars 121 = .ok (.goto (-41), 3) := by decide +kernel
theorem dX7_cars_124 : decode cX7_cars 124 = .ok (.iload_n 1, 1) := by decide +kernel
theorem dX7_cars_125 : decode cX7_cars 125 = .ok (.iload_n 3, 1) := by decide +kernel
theorem dX7_cars_126 : decode cX7_cars 126 = .ok (.iload 4, 2) := by decide +kernel
theorem dX7_cars_128 : decode cX7_cars 128 = .ok (.iadd, 1) := by decide +kernel
theorem dX7_cars_129 : decode cX7_cars 129 = .ok (.imul, 1) := by decide +kernel
theorem dX7_cars_130 : decode cX7_cars 130 = .ok (.ireturn, 1) := by decide +kernel
theorem dX7_cars_131 : decode cX7_cars 131 = .ok (.iconst 0, 1) := by decide +kernel
theorem dX7_cars_132 : decode cX7_cars 132 = .ok (.istore 4, 2) := by decide +kernel
theorem dX7_cars_134 : decode cX7_cars 134 = .ok (.iconst 0, 1) := by decide +kernel
theorem dX7_cars_135 : decode cX7_cars 135 = .ok (.istore 5, 2) := by decide +kernel
theorem dX7_cars_137 : decode cX7_cars 137 = .ok (.iload 5, 2) := by decide +kernel
theorem dX7_cars_139 : decode cX7_cars 139 = .ok (.iload_n 1, 1) := by decide +kernel
theorem dX7_cars_140 : decode cX7_cars 140 = .ok (.if_icmp .ge 87, 3) := by decide +kernel
theorem dX7_cars_143 : decode cX7_cars 143 = .ok (.iload 4, 2) := by decide +kernel
theorem dX7_cars_145 : decode cX7_cars 145 = .ok (.aload_n 0, 1) := by decide +kernel
theorem dX7_cars_146 : decode cX7_cars 146 = .ok (.aload_n 0, 1) := by decide +kernel
theorem dX7_cars_147 : decode cX7_cars 147 = .ok (.getfield 13, 3) := by decide +kernel
theorem dX7_cars_150 : decode cX7_cars 150 = .ok (.iconst 2, 1) := by decide +kernel
theorem dX7_cars_151 : decode cX7_cars 151 = .ok (.iaload, 1) := by decide +kernel
theorem dX7_cars_152 : decode cX7_cars 152 = .ok (.iconst 0, 1) := by decide +kernel
theorem dX7_cars_153 : decode cX7_cars 153 = .ok (.invokevirtual 186, 3) := by decide +kernel
theorem dX7_cars_156 : decode cX7_cars 156 = .ok (.iadd, 1) := by decide +kernel
theorem dX7_cars_157 : decode cX7_cars 157 = .ok (.istore 4, 2) := by decide +kernel
theorem dX7_cars_159 : decode cX7_cars 159 = .ok (.aload_n 0, 1) := by decide +kernel
theorem dX7_cars_160 : decode cX7_cars 160 = .ok (.aload_n 0, 1) := by decide +kernel
theorem dX7_cars_161 : decode cX7_cars 161 = .ok (.getfield 13, 3) := by decide +kernel
theorem dX7_cars_164 : decode cX7_cars 164 = .ok (.iconst 2, 1) := by decide +kernel
theorem dX7_cars_165 : decode cX7_cars 165 = .ok (.iaload, 1) := by decide +kernel
theorem dX7_cars_166 : decode cX7_cars 166 = .ok (.iconst 0, 1) := by decide +kernel
theorem dX7_cars_167 : decode cX7_cars 167 = .ok (.ldc 181, 2) := by decide +kernel
theorem dX7_cars_169 : decode cX7_cars 169 = .ok (.invokevirtual 198, 3) := by decide +kernel
theorem dX7_cars_172 : decode cX7_cars 172 = .ok (.pop, 1) := by decide +kernel
theorem dX7_cars_173 : decode cX7_cars 173 = .ok (.iconst 0, 1) := by decide +kernel
theorem dX7_cars_174 : decode cX7_cars 174 = .ok (.istore 6, 2) := by decide +kernel
theorem dX7_cars_176 : decode cX7_cars 176 = .ok (.iload 6, 2) := by decide +kernel
theorem dX7_cars_178 : decode cX7_cars 178 = .ok (.aload_n 0, 1) := by decide +kernel
theorem dX7_cars_179 : decode cX7_cars 179 = .ok (.getfield 13, 3) := by decide +kernel
theorem dX7_cars_182 : decode cX7_cars 182 = .ok (.iconst 1, 1) := by decide +kernel
theorem dX7_cars_183 : decode cX7_cars 183 = .ok (.iaload, 1) := by decide +kernel
theorem dX7_cars_184 : decode cX7_cars 184 = .ok (.if_icmp .ge 33, 3) := by decide +kernel
theorem dX7_cars_187 : decode cX7_cars 187 = .ok (.aload_n 0, 1) := by decide +kernel
theorem dX7_cars_188 : decode cX7_cars 188 = .ok (.getfield 47, 3) := by decide +kernel
theorem dX7_cars_191 : decode cX7_cars 191 = .ok (.iload 6, 2) := by decide +kernel
theorem dX7_cars_193 : decode cX7_cars 193 = .ok (.dup2, 1) := by decide +kernel
theorem dX7_cars_194 : decode cX7_cars 194 = .ok (.iaload, 1) := by decide +kernel
theorem dX7_cars_195 : decode cX7_cars 195 = .ok (.aload_n 0, 1) := by decide +kernel
theorem dX7_cars_196 : decode cX7_cars 196 = .ok (.getfield 53, 3) := by decide +kernel
theorem dX7_cars_199 : decode cX7_cars 199 = .ok (.iload 6, 2) := by decide +kernel
theorem dX7_cars_201 : decode cX7_cars 201 = .ok (.iaload, 1) := by decide +kernel
theorem dX7_cars_202 : decode cX7_cars 202 = .ok (.aload_n 0, 1) := by decide +kernel
theorem dX7_cars_203 : decode cX7_cars 203 = .ok (.getfield 13, 3) := by decide +kernel
theorem dX7_cars_206 : decode cX7_cars 206 = .ok (.iconst 5, 1) := by decide +kernel
theorem dX7_cars_207 : decode cX7_cars 207 = .ok (.iaload, 1) := by decide +kernel
theorem dX7_cars_208 : decode cX7_cars 208 = .ok (.imul, 1) := by decide +kernel
theorem dX7_cars_209 : decode cX7_cars 209 = .ok (.iadd, 1) := by decide +kernel
theorem dX7_cars_210 : decode cX7_cars 210 = .ok (.iastore, 1) := by decide +kernel
theorem dX7_cars_211 : decode cX7_cars 211 = .ok (.iinc 6 1, 3) := by decide +kernel
theorem dX7_cars_214 : decode cX7_cars 214 = .ok (.goto (-38), 3) := by decide +kernel
theorem dX7_cars_217 : decode cX7_cars 217 = .ok (.aload_n 0, 1) := by decide +kernel
theorem dX7_cars_218 : decode cX7_cars 218 = .ok (.invokevirtual 195, 3) := by decide +kernel
theorem dX7_cars_221 : decode cX7_cars 221 = .ok (.iinc 5 1, 3) := by decide +kernel
theorem dX7_cars_224 : decode cX7_cars 224 = .ok (.goto (-87), 3) := by decide +kernel
theorem dX7_cars_227 : decode cX7_cars 227 = .ok (.iload 4, 2) := by decide +kernel
theorem dX7_cars_229 : decode cX7_cars 229 = .ok (.ireturn, 1) := by decide +kernel
theorem dX7_stepped_0 : decode cX7_stepped 0 = .ok (.iconst 0, 1) := by decide +kernel
theorem dX7_stepped_1 : decode cX7_stepped 1 = .ok (.istore_n 2, 1) := by decide +kernel
theorem dX7_stepped_2 : decode cX7_stepped 2 = .ok (.iconst 0, 1) := by decide +kernel
theorem dX7_stepped_3 : decode cX7_stepped 3 = .ok (.istore_n 3, 1) := by decide +kernel
theorem dX7_stepped_4 : decode cX7_stepped 4 = .ok (.iload_n 3, 1) := by decide +kernel
theorem dX7_stepped_5 : decode cX7_stepped 5 = .ok (.aload_n 0, 1) := by decide +kernel
theorem dX7_stepped_6 : decode cX7_stepped 6 = .ok (.getfield 13, 3) := by decide +kernel
theorem dX7_stepped_9 : decode cX7_stepped 9 = .ok (.iconst 1, 1) := by decide +kernel
theorem dX7_stepped_10 : decode cX7_stepped 10 = .ok (.iaload, 1) := by decide +kernel
theorem dX7_stepped_11 : decode cX7_stepped 11 = .ok (.if_icmp .ge 73, 3) := by decide +kernel
theorem dX7_stepped_14 : decode cX7_stepped 14 = .ok (.aload_n 0, 1) := by decide +kernel
theorem dX7_stepped_15 : decode cX7_stepped 15 = .ok (.invokevirtual 153, 3) := by decide +kernel
theorem dX7_stepped_18 : decode cX7_stepped 18 = .ok (.iload_n 3, 1) := by decide +kernel
theorem dX7_stepped_19 : decode cX7_stepped 19 = .ok (.ishr, 1) := by decide +kernel
theorem dX7_stepped_20 : decode cX7_stepped 20 = .ok (.iconst 1, 1) := by decide +kernel
theorem dX7_stepped_21 : decode cX7_stepped 21 = .ok (.iand, 1) := by decide +kernel
theorem dX7_stepped_22 : decode cX7_stepped 22 = .ok (.iconst 1, 1) := by decide +kernel
theorem dX7_stepped_23 : decode cX7_stepped 23 = .ok (.if_icmp .ne 55, 3) := by decide +kernel
theorem dX7_stepped_26 : decode cX7_stepped 26 = .ok (.iload_n 2, 1) := by decide +kernel
theorem dX7_stepped_27 : decode cX7_stepped 27 = .ok (.iload_n 1, 1) := by decide +kernel
theorem dX7_stepped_28 : decode cX7_stepped 28 = .ok (.aload_n 0, 1) := by decide +kernel
theorem dX7_stepped_29 : decode cX7_stepped 29 = .ok (.getfield 16, 3) := by decide +kernel
theorem dX7_stepped_32 : decode cX7_stepped 32 = .ok (.iconst 2, 1) := by decide +kernel
theorem dX7_stepped_33 : decode cX7_stepped 33 = .ok (.iload_n 3, 1) := by decide +kernel
theorem dX7_stepped_34 : decode cX7_stepped 34 = .ok (.imul, 1) := by decide +kernel
theorem dX7_stepped_35 : decode cX7_stepped 35 = .ok (.iaload, 1) := by decide +kernel
theorem dX7_stepped_36 : decode cX7_stepped 36 = .ok (.ishr, 1) := by decide +kernel
theorem dX7_stepped_37 : decode cX7_stepped 37 = .ok (.iconst 1, 1) := by decide +kernel
theorem dX7_stepped_38 : decode cX7_stepped 38 = .ok (.iand, 1) := by decide +kernel
theorem dX7_stepped_39 : decode cX7_stepped 39 = .ok (.aload_n 0, 1) := by decide +kernel
theorem dX7_stepped_40 : decode cX7_stepped 40 = .ok (.getfield 16, 3) := by decide +kernel
theorem dX7_stepped_43 : decode cX7_stepped 43 = .ok (.iconst 2, 1) := by decide +kernel
theorem dX7_stepped_44 : decode cX7_stepped 44 = .ok (.iload_n 3, 1) := by decide +kernel
theorem dX7_stepped_45 : decode cX7_stepped 45 = .ok (.imul, 1) := by decide +kernel
theorem dX7_stepped_46 : decode cX7_stepped 46 = .ok (.iconst 1, 1) := by decide +kernel
theorem dX7_stepped_47 : decode cX7_stepped 47 = .ok (.iadd, 1) := by decide +kernel
theorem dX7_stepped_48 : decode cX7_stepped 48 = .ok (.iaload, 1) := by decide +kernel
theorem dX7_stepped_49 : decode cX7_stepped 49 = .ok (.ishl, 1) := by decide +kernel
theorem dX7_stepped_50 : decode cX7_stepped 50 = .ok (.ior, 1) := by decide +kernel
theorem dX7_stepped_51 : decode cX7_stepped 51 = .ok (.istore_n 2, 1) := by decide +kernel
theorem dX7_stepped_52 : decode cX7_stepped 52 = .ok (.iload_n 2, 1) := by decide +kernel
theorem dX7_stepped_53 : decode cX7_stepped 53 = .ok (.iload_n 1, 1) := by decide +kernel
theorem dX7_stepped_54 : decode cX7_stepped 54 = .ok (.aload_n 0, 1) := by decide +kernel
theorem dX7_stepped_55 : decode cX7_stepped 55 = .ok (.getfield 16, 3) := by decide +kernel
theorem dX7_stepped_58 : decode cX7_stepped 58 = .ok (.iconst 2, 1) := by decide +kernel
theorem dX7_stepped_59 : decode cX7_stepped 59 = .ok (.iload_n 3, 1) := by decide +kernel
theorem dX7_stepped_60 : decode cX7_stepped 60 = .ok (.imul, 1) := by decide +kernel
theorem dX7_stepped_61 : decode cX7_stepped 61 = .ok (.iconst 1, 1) := by decide +kernel
theorem dX7_stepped_62 : decode cX7_stepped 62 = .ok (.iadd, 1) := by decide +kernel
theorem dX7_stepped_63 : decode cX7_stepped 63 = .ok (.iaload, 1) := by decide +kernel
theorem dX7_stepped_64 : decode cX7_stepped 64 = .ok (.ishr, 1) := by decide +kernel
theorem dX7_stepped_65 : decode cX7_stepped 65 = .ok (.iconst 1, 1) := by decide +kernel
theorem dX7_stepped_66 : decode cX7_stepped 66 = .ok (.iand, 1) := by decide +kernel
theorem dX7_stepped_67 : decode cX7_stepped 67 = .ok (.aload_n 0, 1) := by decide +kernel
theorem dX7_stepped_68 : decode cX7_stepped 68 = .ok (.getfield 16, 3) := by decide +kernel
theorem dX7_stepped_71 : decode cX7_stepped 71 = .ok (.iconst 2, 1) := by decide +kernel
theorem dX7_stepped_72 : decode cX7_stepped 72 = .ok (.iload_n 3, 1) := by decide +kernel
theorem dX7_stepped_73 : decode cX7_stepped 73 = .ok (.imul, 1) := by decide +kernel
theorem dX7_stepped_74 : decode cX7_stepped 74 = .ok (.iaload, 1) := by decide +kernel
theorem dX7_stepped_75 : decode cX7_stepped 75 = .ok (.ishl, 1) := by decide +kernel
theorem dX7_stepped_76 : decode cX7_stepped 76 = .ok (.ior, 1) := by decide +kernel
theorem dX7_stepped_77 : decode cX7_stepped 77 = .ok (.istore_n 2, 1) := by decide +kernel
theorem dX7_stepped_78 : decode cX7_stepped 78 = .ok (.iinc 3 1, 3) := by decide +kernel
theorem dX7_stepped_81 : decode cX7_stepped 81 = .ok (.goto (-77), 3) := by decide +kernel
theorem dX7_stepped_84 : decode cX7_stepped 84 = .ok (.iload_n 2, 1) := by decide +kernel
theorem dX7_stepped_85 : decode cX7_stepped 85 = .ok (.ireturn, 1) := by decide +kernel
theorem dX7_whereBehind_0 : decode cX7_whereBehind 0 = .ok (.iconst 1, 1) := by decide +kernel
theorem dX7_whereBehind_1 : decode cX7_whereBehind 1 = .ok (.aload_n 0, 1) := by decide +kernel
theorem dX7_whereBehind_2 : decode cX7_whereBehind 2 = .ok (.getfield 25, 3) := by decide +kernel
theorem dX7_whereBehind_5 : decode cX7_whereBehind 5 = .ok (.iconst 0, 1) := by decide +kernel
theorem dX7_whereBehind_6 : decode cX7_whereBehind 6 = .ok (.iaload, 1) := by decide +kernel
theorem dX7_whereBehind_7 : decode cX7_whereBehind 7 = .ok (.ishl, 1) := by decide +kernel
theorem dX7_whereBehind_8 : decode cX7_whereBehind 8 = .ok (.istore_n 3, 1) := by decide +kernel
theorem dX7_whereBehind_9 : decode cX7_whereBehind 9 = .ok (.iconst 0, 1) := by decide +kernel
theorem dX7_whereBehind_10 : decode cX7_whereBehind 10 = .ok (.istore 4, 2) := by decide +kernel
theorem dX7_whereBehind_12 : decode cX7_whereBehind 12 = .ok (.iload 4, 2) := by decide +kernel
theorem dX7_whereBehind_14 : decode cX7_whereBehind 14 = .ok (.iload_n 1, 1) := by decide +kernel
theorem dX7_whereBehind_15 : decode cX7_whereBehind 15 = .ok (.if_icmp .gt 74, 3) := by decide +kernel
theorem dX7_whereBehind_18 : decode cX7_whereBehind 18 = .ok (.iload 4, 2) := by decide +kernel
theorem dX7_whereBehind_20 : decode cX7_whereBehind 20 = .ok (.ifCond .ne 7, 3) := by decide +kernel
theorem dX7_whereBehind_23 : decode cX7_whereBehind 23 = .ok (.iload_n 3, 1) := by decide +kernel
theorem dX7_whereBehind_24 : decode cX7_whereBehind 24 = .ok (.goto 8, 3) := by decide +kernel
theorem dX7_whereBehind_27 : decode cX7_whereBehind 27 = .ok (.aload_n 0, 1) := by decide +kernel
theorem dX7_whereBehind_28 : decode cX7_whereBehind 28 = .ok (.iload_n 3, 1) := by decide +kernel
theorem dX7_whereBehind_29 : decode cX7_whereBehind 29 = .ok (.invokevirtual 201, 3) := by decide +kernel
theorem dX7_whereBehind_32 : decode cX7_whereBehind 32 = .ok (.istore_n 3, 1) := by decide +kernel
theorem dX7_whereBehind_33 : decode cX7_whereBehind 33 = .ok (.iconst 0, 1) := by decide +kernel
theorem dX7_whereBehind_34 : decode cX7_whereBehind 34 = .ok (.istore 5, 2) := by decide +kernel
theorem dX7_whereBehind_36 : decode cX7_whereBehind 36 = .ok (.iload 5, 2) := by decide +kernel
theorem dX7_whereBehind_38 : decode cX7_whereBehind 38 = .ok (.aload_n 0, 1) := by decide +kernel
theorem dX7_whereBehind_39 : decode cX7_whereBehind 39 = .ok (.getfield 137, 3) := by decide +kernel
theorem dX7_whereBehind_42 : decode cX7_whereBehind 42 = .ok (.if_icmp .ge 41, 3) := by decide +kernel
theorem dX7_whereBehind_45 : decode cX7_whereBehind 45 = .ok (.iload_n 2, 1) := by decide +kernel
theorem dX7_whereBehind_46 : decode cX7_whereBehind 46 = .ok (.ifCond .eq 29, 3) := by decide +kernel
theorem dX7_whereBehind_49 : decode cX7_whereBehind 49 = .ok (.aload_n 0, 1) := by decide +kernel
theorem dX7_whereBehind_50 : decode cX7_whereBehind 50 = .ok (.getfield 41, 3) := by decide +kernel
theorem dX7_whereBehind_53 : decode cX7_whereBehind 53 = .ok (.iload 5, 2) := by decide +kernel
theorem dX7_whereBehind_55 : decode cX7_whereBehind 55 = .ok (.iaload, 1) := by decide +kernel
theorem dX7_whereBehind_56 : decode cX7_whereBehind 56 = .ok (.iload 4, 2) := by decide +kernel
theorem dX7_whereBehind_58 : decode cX7_whereBehind 58 = .ok (.if_icmp .ne 17, 3) := by decide +kernel
theorem dX7_whereBehind_61 : decode cX7_whereBehind 61 = .ok (.iload_n 3, 1) := by decide +kernel
theorem dX7_whereBehind_62 : decode cX7_whereBehind 62 = .ok (.iconst 1, 1) := by decide +kernel
theorem dX7_whereBehind_63 : decode cX7_whereBehind 63 = .ok (.aload_n 0, 1) := by decide +kernel
theorem dX7_whereBehind_64 : decode cX7_whereBehind 64 = .ok (.getfield 44, 3) := by decide +kernel
theorem dX7_whereBehind_67 : decode cX7_whereBehind 67 = .ok (.iload 5, 2) := by decide +kernel
theorem dX7_whereBehind_69 : decode cX7_whereBehind 69 = .ok (.iaload, 1) := by decide +kernel
theorem dX7_whereBehind_70 : decode cX7_whereBehind 70 = .ok (.ishl, 1) := by decide +kernel
theorem dX7_whereBehind_71 : decode cX7_whereBehind 71 = .ok (.iand, 1) := by decide +kernel
theorem dX7_whereBehind_72 : decode cX7_whereBehind 72 = .ok (.goto 4, 3) := by decide +kernel
theorem dX7_whereBehind_75 : decode cX7_whereBehind 75 = .ok (.iload_n 3, 1) := by decide +kernel
theorem dX7_whereBehind_76 : decode cX7_whereBehind 76 = .ok (.istore_n 3, 1) := by decide +kernel
theorem dX7_whereBehind_77 : decode cX7_whereBehind 77 = .ok (.iinc 5 1, 3) := by decide +kernel
theorem dX7_whereBehind_80 : decode cX7_whereBehind 80 = .ok (.goto (-44), 3) := by decide +kernel
theorem dX7_whereBehind_83 : decode cX7_whereBehind 83 = .ok (.iinc 4 1, 3) := by decide +kernel
theorem dX7_whereBehind_86 : decode cX7_whereBehind 86 = .ok (.goto (-74), 3) := by decide +kernel
theorem dX7_whereBehind_89 : decode cX7_whereBehind 89 = .ok (.iload_n 3, 1) := by decide +kernel
theorem dX7_whereBehind_90 : decode cX7_whereBehind 90 = .ok (.ireturn, 1) := by decide +kernel
theorem dX7_tunnel_0 : decode cX7_tunnel 0 = .ok (.aload_n 0, 1) := by decide +kernel
theorem dX7_tunnel_1 : decode cX7_tunnel 1 = .ok (.iconst 0, 1) := by decide +kernel
theorem dX7_tunnel_2 : decode cX7_tunnel 2 = .ok (.putfield 69, 3) := by decide +kernel
theorem dX7_tunnel_5 : decode cX7_tunnel 5 = .ok (.iload_n 1, 1) := by decide +kernel
theorem dX7_tunnel_6 : decode cX7_tunnel 6 = .ok (.iconst 0, 1) := by decide +kernel
theorem dX7_tunnel_7 : decode cX7_tunnel 7 = .ok (.bipush 8, 2) := by decide +kernel
theorem dX7_tunnel_9 : decode cX7_tunnel 9 = .ok (.invokestatic 73, 3) := by decide +kernel
theorem dX7_tunnel_12 : decode cX7_tunnel 12 = .ok (.ifCond .eq 12, 3) := by decide +kernel
theorem dX7_tunnel_15 : decode cX7_tunnel 15 = .ok (.aload_n 0, 1) := by decide +kernel
theorem dX7_tunnel_16 : decode cX7_tunnel 16 = .ok (.iload_n 1, 1) := by decide +kernel
theorem dX7_tunnel_17 : decode cX7_tunnel 17 = .ok (.iconst 0, 1) := by decide +kernel
theorem dX7_tunnel_18 : decode cX7_tunnel 18 = .ok (.invokevirtual 204, 3) := by decide +kernel
theorem dX7_tunnel_21 : decode cX7_tunnel 21 = .ok (.goto 4, 3) := by decide +kernel
theorem dX7_tunnel_24 : decode cX7_tunnel 24 = .ok (.iconst (-1), 1) := by decide +kernel
theorem dX7_tunnel_25 : decode cX7_tunnel 25 = .ok (.ireturn, 1) := by decide +kernel
theorem dX7_saw_0 : decode cX7_saw 0 = .ok (.aload_n 0, 1) := by decide +kernel
theorem dX7_saw_1 : decode cX7_saw 1 = .ok (.iconst 0, 1) := by decide +kernel
theorem dX7_saw_2 : decode cX7_saw 2 = .ok (.putfield 69, 3) := by decide +kernel
theorem dX7_saw_5 : decode cX7_saw 5 = .ok (.iload_n 1, 1) := by decide +kernel
theorem dX7_saw_6 : decode cX7_saw 6 = .ok (.iconst 0, 1) := by decide +kernel
theorem dX7_saw_7 : decode cX7_saw 7 = .ok (.bipush 8, 2) := by decide +kernel
theorem dX7_saw_9 : decode cX7_saw 9 = .ok (.invokestatic 73, 3) := by decide +kernel
theorem dX7_saw_12 : decode cX7_saw 12 = .ok (.ifCond .eq 11, 3) := by decide +kernel
theorem dX7_saw_15 : decode cX7_saw 15 = .ok (.aload_n 0, 1) := by decide +kernel
theorem dX7_saw_16 : decode cX7_saw 16 = .ok (.iload_n 2, 1) := by decide +kernel
theorem dX7_saw_17 : decode cX7_saw 17 = .ok (.invokevirtual 150, 3) := by decide +kernel
theorem dX7_saw_20 : decode cX7_saw 20 = .ok (.ifCond .ne 5, 3) := by decide +kernel
theorem dX7_saw_23 : decode cX7_saw 23 = .ok (.iconst (-1), 1) := by decide +kernel
theorem dX7_saw_24 : decode cX7_saw 24 = .ok (.ireturn, 1) := by decide +kernel
theorem dX7_saw_25 : decode cX7_saw 25 = .ok (.aload_n 0, 1) := by decide +kernel
theorem dX7_saw_26 : decode cX7_saw 26 = .ok (.getfield 137, 3) := by decide +kernel
theorem dX7_saw_29 : decode cX7_saw 29 = .ok (.iconst 5, 1) := by decide +kernel
theorem dX7_saw_30 : decode cX7_saw 30 = .ok (.if_icmp .ne 6, 3) := by decide +kernel
theorem dX7_saw_33 : decode cX7_saw 33 = .ok (.bipush (-3), 2) := by decide +kernel
theorem dX7_saw_35 : decode cX7_saw 35 = .ok (.ireturn, 1) := by decide +kernel
theorem dX7_saw_36 : decode cX7_saw 36 = .ok (.aload_n 0, 1) := by decide +kernel
theorem dX7_saw_37 : decode cX7_saw 37 = .ok (.getfield 41, 3) := by decide +kernel
theorem dX7_saw_40 : decode cX7_saw 40 = .ok (.aload_n 0, 1) := by decide +kernel
theorem dX7_saw_41 : decode cX7_saw 41 = .ok (.getfield 137, 3) := by decide +kernel
theorem dX7_saw_44 : decode cX7_saw 44 = .ok (.iload_n 1, 1) := by decide +kernel
theorem dX7_saw_45 : decode cX7_saw 45 = .ok (.iastore, 1) := by decide +kernel
theorem dX7_saw_46 : decode cX7_saw 46 = .ok (.aload_n 0, 1) := by decide +kernel
theorem dX7_saw_47 : decode cX7_saw 47 = .ok (.getfield 44, 3) := by decide +kernel
theorem dX7_saw_50 : decode cX7_saw 50 = .ok (.aload_n 0, 1) := by decide +kernel
theorem dX7_saw_51 : decode cX7_saw 51 = .ok (.getfield 137, 3) := by decide +kernel
theorem dX7_saw_54 : decode cX7_saw 54 = .ok (.iload_n 2, 1) := by decide +kernel
theorem dX7_saw_55 : decode cX7_saw 55 = .ok (.iastore, 1) := by decide +kernel
theorem dX7_saw_56 : decode cX7_saw 56 = .ok (.aload_n 0, 1) := by decide +kernel
theorem dX7_saw_57 : decode cX7_saw 57 = .ok (.dup, 1) := by decide +kernel
theorem dX7_saw_58 : decode cX7_saw 58 = .ok (.getfield 137, 3) := by decide +kernel
theorem dX7_saw_61 : decode cX7_saw 61 = .ok (.iconst 1, 1) := by decide +kernel
theorem dX7_saw_62 : decode cX7_saw 62 = .ok (.iadd, 1) := by decide +kernel
theorem dX7_saw_63 : decode cX7_saw 63 = .ok (.putfield 137, 3) := by decide +kernel
theorem dX7_saw_66 : decode cX7_saw 66 = .ok (.aload_n 0, 1) := by decide +kernel
theorem dX7_saw_67 : decode cX7_saw 67 = .ok (.getfield 137, 3) := by decide +kernel
theorem dX7_saw_70 : decode cX7_saw 70 = .ok (.ireturn, 1) := by decide +kernel
theorem dX7_forget_0 : decode cX7_forget 0 = .ok (.aload_n 0, 1) := by decide +kernel
theorem dX7_forget_1 : decode cX7_forget 1 = .ok (.iconst 0, 1) := by decide +kernel
theorem dX7_forget_2 : decode cX7_forget 2 = .ok (.putfield 69, 3) := by decide +kernel
theorem dX7_forget_5 : decode cX7_forget 5 = .ok (.aload_n 0, 1) := by decide +kernel
theorem dX7_forget_6 : decode cX7_forget 6 = .ok (.getfield 137, 3) := by decide +kernel
theorem dX7_forget_9 : decode cX7_forget 9 = .ok (.istore_n 1, 1) := by decide +kernel
theorem dX7_forget_10 : decode cX7_forget 10 = .ok (.aload_n 0, 1) := by decide +kernel
theorem dX7_forget_11 : decode cX7_forget 11 = .ok (.iconst 0, 1) := by decide +kernel
theorem dX7_forget_12 : decode cX7_forget 12 = .ok (.putfield 137, 3) := by decide +kernel
theorem dX7_forget_15 : decode cX7_forget 15 = .ok (.iload_n 1, 1) := by decide +kernel
theorem dX7_forget_16 : decode cX7_forget 16 = .ok (.ireturn, 1) := by decide +kernel
theorem dX7_where_0 : decode cX7_where 0 = .ok (.aload_n 0, 1) := by decide +kernel
theorem dX7_where_1 : decode cX7_where 1 = .ok (.iconst 0, 1) := by decide +kernel
theorem dX7_where_2 : decode cX7_where 2 = .ok (.putfield 69, 3) := by decide +kernel
theorem dX7_where_5 : decode cX7_where 5 = .ok (.iload_n 1, 1) := by decide +kernel
theorem dX7_where_6 : decode cX7_where 6 = .ok (.iconst 0, 1) := by decide +kernel
theorem dX7_where_7 : decode cX7_where 7 = .ok (.bipush 8, 2) := by decide +kernel
theorem dX7_where_9 : decode cX7_where 9 = .ok (.invokestatic 73, 3) := by decide +kernel
theorem dX7_where_12 : decode cX7_where 12 = .ok (.ifCond .eq 12, 3) := by decide +kernel
theorem dX7_where_15 : decode cX7_where 15 = .ok (.aload_n 0, 1) := by decide +kernel
theorem dX7_where_16 : decode cX7_where 16 = .ok (.iload_n 1, 1) := by decide +kernel
theorem dX7_where_17 : decode cX7_where 17 = .ok (.iconst 1, 1) := by decide +kernel
theorem dX7_where_18 : decode cX7_where 18 = .ok (.invokevirtual 204, 3) := by decide +kernel
theorem dX7_where_21 : decode cX7_where 21 = .ok (.goto 4, 3) := by decide +kernel
theorem dX7_where_24 : decode cX7_where 24 = .ok (.iconst (-1), 1) := by decide +kernel
theorem dX7_where_25 : decode cX7_where 25 = .ok (.ireturn, 1) := by decide +kernel
theorem dX7_which_0 : decode cX7_which 0 = .ok (.aload_n 0, 1) := by decide +kernel
theorem dX7_which_1 : decode cX7_which 1 = .ok (.iconst 0, 1) := by decide +kernel
theorem dX7_which_2 : decode cX7_which 2 = .ok (.putfield 69, 3) := by decide +kernel
theorem dX7_which_5 : decode cX7_which 5 = .ok (.iload_n 1, 1) := by decide +kernel
theorem dX7_which_6 : decode cX7_which 6 = .ok (.iconst 0, 1) := by decide +kernel
theorem dX7_which_7 : decode cX7_which 7 = .ok (.bipush 60, 2) := by decide +kernel
theorem dX7_which_9 : decode cX7_which 9 = .ok (.invokestatic 73, 3) := by decide +kernel
theorem dX7_which_12 : decode cX7_which 12 = .ok (.ifCond .eq 14, 3) := by decide +kernel
theorem dX7_which_15 : decode cX7_which 15 = .ok (.iload_n 2, 1) := by decide +kernel
theorem dX7_which_16 : decode cX7_which 16 = .ok (.iconst 0, 1) := by decide +kernel
theorem dX7_which_17 : decode cX7_which 17 = .ok (.sipush 999, 3) := by decide +kernel
theorem dX7_which_20 : decode cX7_which 20 = .ok (.invokestatic 73, 3) := by decide +kernel
theorem dX7_which_23 : decode cX7_which 23 = .ok (.ifCond .ne 5, 3) := by decide +kernel
theorem dX7_which_26 : decode cX7_which 26 = .ok (.iconst (-1), 1) := by decide +kernel
theorem dX7_which_27 : decode cX7_which 27 = .ok (.ireturn, 1) := by decide +kernel
theorem dX7_which_28 : decode cX7_which 28 = .ok (.iconst 0, 1) := by decide +kernel
theorem dX7_which_29 : decode cX7_which 29 = .ok (.istore_n 3, 1) := by decide +kernel
theorem dX7_which_30 : decode cX7_which 30 = .ok (.iconst 0, 1) := by decide +kernel
theorem dX7_which_31 : decode cX7_which 31 = .ok (.istore 4, 2) := by decide +kernel
theorem dX7_which_33 : decode cX7_which 33 = .ok (.iload 4, 2) := by decide +kernel
theorem dX7_which_35 : decode cX7_which 35 = .ok (.aload_n 0, 1) := by decide +kernel
theorem dX7_which_36 : decode cX7_which 36 = .ok (.getfield 13, 3) := by decide +kernel
theorem dX7_which_39 : decode cX7_which 39 = .ok (.iconst 1, 1) := by decide +kernel
theorem dX7_which_40 : decode cX7_which 40 = .ok (.iaload, 1) := by decide +kernel
theorem dX7_which_41 : decode cX7_which 41 = .ok (.if_icmp .ge 54, 3) := by decide +kernel
theorem dX7_which_44 : decode cX7_which 44 = .ok (.aload_n 0, 1) := by decide +kernel
theorem dX7_which_45 : decode cX7_which 45 = .ok (.invokevirtual 166, 3) := by decide +kernel
theorem dX7_which_48 : decode cX7_which 48 = .ok (.aload_n 0, 1) := by decide +kernel
theorem dX7_which_49 : decode cX7_which 49 = .ok (.getfield 47, 3) := by decide +kernel
theorem dX7_which_52 : decode cX7_which 52 = .ok (.iload 4, 2) := by decide +kernel
theorem dX7_which_54 : decode cX7_which 54 = .ok (.dup2, 1) := by decide +kernel
theorem dX7_which_55 : decode cX7_which 55 = .ok (.iaload, 1) := by decide +kernel
theorem dX7_which_56 : decode cX7_which 56 = .ok (.iload_n 1, 1) := by decide +kernel
theorem dX7_which_57 : decode cX7_which 57 = .ok (.iadd, 1) := by decide +kernel
theorem dX7_which_58 : decode cX7_which 58 = .ok (.iastore, 1) := by decide +kernel
theorem dX7_which_59 : decode cX7_which 59 = .ok (.aload_n 0, 1) := by decide +kernel
theorem dX7_which_60 : decode cX7_which 60 = .ok (.invokevirtual 195, 3) := by decide +kernel
theorem dX7_which_63 : decode cX7_which 63 = .ok (.iload_n 3, 1) := by decide +kernel
theorem dX7_which_64 : decode cX7_which 64 = .ok (.aload_n 0, 1) := by decide +kernel
theorem dX7_which_65 : decode cX7_which 65 = .ok (.aload_n 0, 1) := by decide +kernel
theorem dX7_which_66 : decode cX7_which 66 = .ok (.getfield 13, 3) := by decide +kernel
theorem dX7_which_69 : decode cX7_which 69 = .ok (.iconst 2, 1) := by decide +kernel
theorem dX7_which_70 : decode cX7_which 70 = .ok (.iaload, 1) := by decide +kernel
theorem dX7_which_71 : decode cX7_which 71 = .ok (.iconst 0, 1) := by decide +kernel
theorem dX7_which_72 : decode cX7_which 72 = .ok (.invokevirtual 186, 3) := by decide +kernel
theorem dX7_which_75 : decode cX7_which 75 = .ok (.iload_n 2, 1) := by decide +kernel
theorem dX7_which_76 : decode cX7_which 76 = .ok (.if_icmp .ne 10, 3) := by decide +kernel
theorem dX7_which_79 : decode cX7_which 79 = .ok (.iconst 1, 1) := by decide +kernel
theorem dX7_which_80 : decode cX7_which 80 = .ok (.iload 4, 2) := by decide +kernel
theorem dX7_which_82 : decode cX7_which 82 = .ok (.ishl, 1) := by decide +kernel
theorem dX7_which_83 : decode cX7_which 83 = .ok (.goto 4, 3) := by decide +kernel
theorem dX7_which_86 : decode cX7_which 86 = .ok (.iconst 0, 1) := by decide +kernel
theorem dX7_which_87 : decode cX7_which 87 = .ok (.ior, 1) := by decide +kernel
theorem dX7_which_88 : decode cX7_which 88 = .ok (.istore_n 3, 1) := by decide +kernel
theorem dX7_which_89 : decode cX7_which 89 = .ok (.iinc 4 1, 3) := by decide +kernel
theorem dX7_which_92 : decode cX7_which 92 = .ok (.goto (-59), 3) := by decide +kernel
theorem dX7_which_95 : decode cX7_which 95 = .ok (.iload_n 3, 1) := by decide +kernel
theorem dX7_which_96 : decode cX7_which 96 = .ok (.ireturn, 1) := by decide +kernel
theorem dX7_gcd_0 : decode cX7_gcd 0 = .ok (.lload_n 0, 1) := by decide +kernel
theorem dX7_gcd_1 : decode cX7_gcd 1 = .ok (.lstore 4, 2) := by decide +kernel
theorem dX7_gcd_3 : decode cX7_gcd 3 = .ok (.lload_n 2, 1) := by decide +kernel
theorem dX7_gcd_4 : decode cX7_gcd 4 = .ok (.lstore 6, 2) := by decide +kernel
theorem dX7_gcd_6 : decode cX7_gcd 6 = .ok (.lload 6, 2) := by decide +kernel
theorem dX7_gcd_8 : decode cX7_gcd 8 = .ok (.lconst 0, 1) := by decide +kernel
theorem dX7_gcd_9 : decode cX7_gcd 9 = .ok (.lcmp, 1) := by decide +kernel
theorem dX7_gcd_10 : decode cX7_gcd 10 = .ok (.ifCond .eq 21, 3) := by decide +kernel
theorem dX7_gcd_13 : decode cX7_gcd 13 = .ok (.lload 4, 2) := by decide +kernel
theorem dX7_gcd_15 : decode cX7_gcd 15 = .ok (.lload 6, 2) := by decide +kernel
theorem dX7_gcd_17 : decode cX7_gcd 17 = .ok (.lrem, 1) := by decide +kernel
theorem dX7_gcd_18 : decode cX7_gcd 18 = .ok (.lstore 8, 2) := by decide +kernel
theorem dX7_gcd_20 : decode cX7_gcd 20 = .ok (.lload 6, 2) := by decide +kernel
theorem dX7_gcd_22 : decode cX7_gcd 22 = .ok (.lstore 4, 2) := by decide +kernel
theorem dX7_gcd_24 : decode cX7_gcd 24 = .ok (.lload 8, 2) := by decide +kernel
theorem dX7_gcd_26 : decode cX7_gcd 26 = .ok (.lstore 6, 2) := by decide +kernel
theorem dX7_gcd_28 : decode cX7_gcd 28 = .ok (.goto (-22), 3) := by decide +kernel
theorem dX7_gcd_31 : decode cX7_gcd 31 = .ok (.lload 4, 2) := by decide +kernel
theorem dX7_gcd_33 : decode cX7_gcd 33 = .ok (.lreturn, 1) := by decide +kernel
theorem dX7_odds_0 : decode cX7_odds 0 = .ok (.aload_n 0, 1) := by decide +kernel
theorem dX7_odds_1 : decode cX7_odds 1 = .ok (.iconst 0, 1) := by decide +kernel
theorem dX7_odds_2 : decode cX7_odds 2 = .ok (.putfield 69, 3) := by decide +kernel
theorem dX7_odds_5 : decode cX7_odds 5 = .ok (.aload_n 0, 1) := by decide +kernel
theorem dX7_odds_6 : decode cX7_odds 6 = .ok (.iload_n 1, 1) := by decide +kernel
theorem dX7_odds_7 : decode cX7_odds 7 = .ok (.invokevirtual 150, 3) := by decide +kernel
theorem dX7_odds_10 : decode cX7_odds 10 = .ok (.ifCond .eq 21, 3) := by decide +kernel
theorem dX7_odds_13 : decode cX7_odds 13 = .ok (.iload_n 2, 1) := by decide +kernel
theorem dX7_odds_14 : decode cX7_odds 14 = .ok (.iconst 0, 1) := by decide +kernel
theorem dX7_odds_15 : decode cX7_odds 15 = .ok (.iconst 4, 1) := by decide +kernel
theorem dX7_odds_16 : decode cX7_odds 16 = .ok (.invokestatic 73, 3) := by decide +kernel
theorem dX7_odds_19 : decode cX7_odds 19 = .ok (.ifCond .eq 12, 3) := by decide +kernel
theorem dX7_odds_22 : decode cX7_odds 22 = .ok (.iload_n 3, 1) := by decide +kernel
theorem dX7_odds_23 : decode cX7_odds 23 = .ok (.iconst 0, 1) := by decide +kernel
theorem dX7_odds_24 : decode cX7_odds 24 = .ok (.iconst 1, 1) := by decide +kernel
theorem dX7_odds_25 : decode cX7_odds 25 = .ok (.invokestatic 73, 3) := by decide +kernel
theorem dX7_odds_28 : decode cX7_odds 28 = .ok (.ifCond .ne 7, 3) := by decide +kernel
theorem dX7_odds_31 : decode cX7_odds 31 = .ok (.ldc2_w 208, 3) := by decide +kernel
theorem dX7_odds_34 : decode cX7_odds 34 = .ok (.lreturn, 1) := by decide +kernel
theorem dX7_odds_35 : decode cX7_odds 35 = .ok (.lconst 1, 1) := by decide +kernel
theorem dX7_odds_36 : decode cX7_odds 36 = .ok (.lstore 4, 2) := by decide +kernel
theorem dX7_odds_38 : decode cX7_odds 38 = .ok (.iconst 0, 1) := by decide +kernel
theorem dX7_odds_39 : decode cX7_odds 39 = .ok (.istore 6, 2) := by decide +kernel
theorem dX7_odds_41 : decode cX7_odds 41 = .ok (.iload 6, 2) := by decide +kernel
theorem dX7_odds_43 : decode cX7_odds 43 = .ok (.bipush 8, 2) := by decide +kernel
theorem dX7_odds_45 : decode cX7_odds 45 = .ok (.if_icmp .ge 32, 3) := by decide +kernel
theorem dX7_odds_48 : decode cX7_odds 48 = .ok (.aload_n 0, 1) := by decide +kernel
theorem dX7_odds_49 : decode cX7_odds 49 = .ok (.getfield 56, 3) := by decide +kernel
theorem dX7_odds_52 : decode cX7_odds 52 = .ok (.iload 6, 2) := by decide +kernel
theorem dX7_odds_54 : decode cX7_odds 54 = .ok (.iload 6, 2) := by decide +kernel
theorem dX7_odds_56 : decode cX7_odds 56 = .ok (.aload_n 0, 1) := by decide +kernel
theorem dX7_odds_57 : decode cX7_odds 57 = .ok (.getfield 25, 3) := by decide +kernel
theorem dX7_odds_60 : decode cX7_odds 60 = .ok (.iconst 0, 1) := by decide +kernel
theorem dX7_odds_61 : decode cX7_odds 61 = .ok (.iaload, 1) := by decide +kernel
theorem dX7_odds_62 : decode cX7_odds 62 = .ok (.if_icmp .ne 7, 3) := by decide +kernel
theorem dX7_odds_65 : decode cX7_odds 65 = .ok (.lconst 1, 1) := by decide +kernel
theorem dX7_odds_66 : decode cX7_odds 66 = .ok (.goto 4, 3) := by decide +kernel
theorem dX7_odds_69 : decode cX7_odds 69 = .ok (.lconst 0, 1) := by decide +kernel
theorem dX7_odds_70 : decode cX7_odds 70 = .ok (.lastore, 1) := by decide +kernel
theorem dX7_odds_71 : decode cX7_odds 71 = .ok (.iinc 6 1, 3) := by decide +kernel
theorem dX7_odds_74 : decode cX7_odds 74 = .ok (.goto (-33), 3) := by decide +kernel
theorem dX7_odds_77 : decode cX7_odds 77 = .ok (.iconst 0, 1) := by decide +kernel
theorem dX7_odds_78 : decode cX7_odds 78 = .ok (.istore 6, 2) := by decide +kernel
theorem dX7_odds_80 : decode cX7_odds 80 = .ok (.iload 6, 2) := by decide +kernel
theorem dX7_odds_82 : decode cX7_odds 82 = .ok (.iload_n 2, 1) := by decide +kernel
theorem dX7_odds_83 : decode cX7_odds 83 = .ok (.if_icmp .ge 198, 3) := by decide +kernel
theorem dX7_odds_86 : decode cX7_odds 86 = .ok (.lload 4, 2) := by decide +kernel
theorem dX7_odds_88 : decode cX7_odds 88 = .ok (.ldc2_w 210, 3) := by decide +kernel
theorem dX7_odds_91 : decode cX7_odds 91 = .ok (.lmul, 1) := by decide +kernel
theorem dX7_odds_92 : decode cX7_odds 92 = .ok (.lstore 4, 2) := by decide +kernel
theorem dX7_odds_94 : decode cX7_odds 94 = .ok (.iconst 0, 1) := by decide +kernel
theorem dX7_odds_95 : decode cX7_odds 95 = .ok (.istore 7, 2) := by decide +kernel
theorem dX7_odds_97 : decode cX7_odds 97 = .ok (.iload 7, 2) := by decide +kernel
theorem dX7_odds_99 : decode cX7_odds 99 = .ok (.bipush 8, 2) := by decide +kernel
theorem dX7_odds_101 : decode cX7_odds 101 = .ok (.if_icmp .ge 17, 3) := by decide +kernel
theorem dX7_odds_104 : decode cX7_odds 104 = .ok (.aload_n 0, 1) := by decide +kernel
theorem dX7_odds_105 : decode cX7_odds 105 = .ok (.getfield 60, 3) := by decide +kernel
theorem dX7_odds_108 : decode cX7_odds 108 = .ok (.iload 7, 2) := by decide +kernel
theorem dX7_odds_110 : decode cX7_odds 110 = .ok (.lconst 0, 1) := by decide +kernel
theorem dX7_odds_111 : decode cX7_odds 111 = .ok (.lastore, 1) := by decide +kernel
theorem dX7_odds_112 : decode cX7_odds 112 = .ok (.iinc 7 1, 3) := by decide +kernel
theorem dX7_odds_115 : decode cX7_odds 115 = .ok (.goto (-18), 3) := by decide +kernel
theorem dX7_odds_118 : decode cX7_odds 118 = .ok (.iconst 0, 1) := by decide +kernel
theorem dX7_odds_119 : decode cX7_odds 119 = .ok (.istore 7, 2) := by decide +kernel
theorem dX7_odds_121 : decode cX7_odds 121 = .ok (.iload 7, 2) := by decide +kernel
theorem dX7_odds_123 : decode cX7_odds 123 = .ok (.aload_n 0, 1) := by decide +kernel
theorem dX7_odds_124 : decode cX7_odds 124 = .ok (.getfield 13, 3) := by decide +kernel
theorem dX7_odds_127 : decode cX7_odds 127 = .ok (.iconst 0, 1) := by decide +kernel
theorem dX7_odds_128 : decode cX7_odds 128 = .ok (.iaload, 1) := by decide +kernel
theorem dX7_odds_129 : decode cX7_odds 129 = .ok (.if_icmp .ge 116, 3) := by decide +kernel
theorem dX7_odds_132 : decode cX7_odds 132 = .ok (.aload_n 0, 1) := by decide +kernel
theorem dX7_odds_133 : decode cX7_odds 133 = .ok (.aload_n 0, 1) := by decide +kernel
theorem dX7_odds_134 : decode cX7_odds 134 = .ok (.invokevirtual 153, 3) := by decide +kernel
theorem dX7_odds_137 : decode cX7_odds 137 = .ok (.iload 7, 2) := by decide +kernel
theorem dX7_odds_139 : decode cX7_odds 139 = .ok (.invokevirtual 157, 3) := by decide +kernel
theorem dX7_odds_142 : decode cX7_odds 142 = .ok (.istore 8, 2) := by decide +kernel
theorem dX7_odds_144 : decode cX7_odds 144 = .ok (.aload_n 0, 1) := by decide +kernel
theorem dX7_odds_145 : decode cX7_odds 145 = .ok (.getfield 60, 3) := by decide +kernel
theorem dX7_odds_148 : decode cX7_odds 148 = .ok (.iload 7, 2) := by decide +kernel
theorem dX7_odds_150 : decode cX7_odds 150 = .ok (.dup2, 1) := by decide +kernel
theorem dX7_odds_151 : decode cX7_odds 151 = .ok (.laload, 1) := by decide +kernel
theorem dX7_odds_152 : decode cX7_odds 152 = .ok (.iload 8, 2) := by decide +kernel
theorem dX7_odds_154 : decode cX7_odds 154 = .ok (.ifCond .ne 17, 3) := by decide +kernel
theorem dX7_odds_157 : decode cX7_odds 157 = .ok (.aload_n 0, 1) := by decide +kernel
theorem dX7_odds_158 : decode cX7_odds 158 = .ok (.getfield 56, 3) := by decide +kernel
theorem dX7_odds_161 : decode cX7_odds 161 = .ok (.iload 7, 2) := by decide +kernel
theorem dX7_odds_163 : decode cX7_odds 163 = .ok (.laload, 1) := by decide +kernel
theorem dX7_odds_164 : decode cX7_odds 164 = .ok (.ldc2_w 210, 3) := by decide +kernel
theorem dX7_odds_167 : decode cX7_odds 167 = .ok (.lmul, 1) := by decide +kernel
theorem dX7_odds_168 : decode cX7_odds 168 = .ok (.goto 4, 3) := by decide +kernel
theorem dX7_odds_171 : decode cX7_odds 171 = .ok (.lconst 0, 1) := by decide +kernel
theorem dX7_odds_172 : decode cX7_odds 172 = .ok (.ladd, 1) := by decide +kernel
theorem dX7_odds_173 : decode cX7_odds 173 = .ok (.lastore, 1) := by decide +kernel
theorem dX7_odds_174 : decode cX7_odds 174 = .ok (.iconst 0, 1) := by decide +kernel
theorem dX7_odds_175 : decode cX7_odds 175 = .ok (.istore 9, 2) := by decide +kernel
theorem dX7_odds_177 : decode cX7_odds 177 = .ok (.iload 9, 2) := by decide +kernel
theorem dX7_odds_179 : decode cX7_odds 179 = .ok (.aload_n 0, 1) := by decide +kernel
theorem dX7_odds_180 : decode cX7_odds 180 = .ok (.getfield 13, 3) := by decide +kernel
theorem dX7_odds_183 : decode cX7_odds 183 = .ok (.iconst 1, 1) := by decide +kernel
theorem dX7_odds_184 : decode cX7_odds 184 = .ok (.iaload, 1) := by decide +kernel
theorem dX7_odds_185 : decode cX7_odds 185 = .ok (.if_icmp .ge 54, 3) := by decide +kernel
theorem dX7_odds_188 : decode cX7_odds 188 = .ok (.iload 8, 2) := by decide +kernel
theorem dX7_odds_190 : decode cX7_odds 190 = .ok (.iload 9, 2) := by decide +kernel
theorem dX7_odds_192 : decode cX7_odds 192 = .ok (.ishr, 1) := by decide +kernel
theorem dX7_odds_193 : decode cX7_odds 193 = .ok (.iconst 1, 1) := by decide +kernel
theorem dX7_odds_194 : decode cX7_odds 194 = .ok (.iand, 1) := by decide +kernel
theorem dX7_odds_195 : decode cX7_odds 195 = .ok (.iconst 1, 1) := by decide +kernel
theorem dX7_odds_196 : decode cX7_odds 196 = .ok (.if_icmp .ne 37, 3) := by decide +kernel
theorem dX7_odds_199 : decode cX7_odds 199 = .ok (.aload_n 0, 1) := by decide +kernel
theorem dX7_odds_200 : decode cX7_odds 200 = .ok (.getfield 60, 3) := by decide +kernel
theorem dX7_odds_203 : decode cX7_odds 203 = .ok (.aload_n 0, 1) := by decide +kernel
theorem dX7_odds_204 : decode cX7_odds 204 = .ok (.iload 9, 2) := by decide +kernel
theorem dX7_odds_206 : decode cX7_odds 206 = .ok (.iload 7, 2) := by decide +kernel
theorem dX7_odds_208 : decode cX7_odds 208 = .ok (.invokevirtual 175, 3) := by decide +kernel
theorem dX7_odds_211 : decode cX7_odds 211 = .ok (.dup2, 1) := by decide +kernel
theorem dX7_odds_212 : decode cX7_odds 212 = .ok (.laload, 1) := by decide +kernel
theorem dX7_odds_213 : decode cX7_odds 213 = .ok (.aload_n 0, 1) := by decide +kernel
theorem dX7_odds_214 : decode cX7_odds 214 = .ok (.getfield 56, 3) := by decide +kernel
theorem dX7_odds_217 : decode cX7_odds 217 = .ok (.iload 7, 2) := by decide +kernel
theorem dX7_odds_219 : decode cX7_odds 219 = .ok (.laload, 1) := by decide +kernel
theorem dX7_odds_220 : decode cX7_odds 220 = .ok (.ldc2_w 210, 3) := by decide +kernel
theorem dX7_odds_223 : decode cX7_odds 223 = .ok (.iload 8, 2) := by decide +kernel
theorem dX7_odds_225 : decode cX7_odds 225 = .ok (.invokestatic 178, 3) := by decide +kernel
theorem dX7_odds_228 : decode cX7_odds 228 = .ok (.i2l, 1) := by decide +kernel
theorem dX7_odds_229 : decode cX7_odds 229 = .ok (.ldiv, 1) := by decide +kernel
theorem dX7_odds_230 : decode cX7_odds 230 = .ok (.lmul, 1) := by decide +kernel
theorem dX7_odds_231 : decode cX7_odds 231 = .ok (.ladd, 1) := by decide +kernel
theorem dX7_odds_232 : decode cX7_odds 232 = .ok (.lastore, 1) := by decide +kernel
theorem dX7_odds_233 : decode cX7_odds 233 = .ok (.iinc 9 1, 3) := by decide +kernel
theorem dX7_odds_236 : decode cX7_odds 236 = .ok (.goto (-59), 3) := by decide +kernel
theorem dX7_odds_239 : decode cX7_odds 239 = .ok (.iinc 7 1, 3) := by decide +kernel
theorem dX7_odds_242 : decode cX7_odds 242 = .ok (.goto (-121), 3) := by decide +kernel
theorem dX7_odds_245 : decode cX7_odds 245 = .ok (.iconst 0, 1) := by decide +kernel
theorem dX7_odds_246 : decode cX7_odds 246 = .ok (.istore 7, 2) := by decide +kernel
theorem dX7_odds_248 : decode cX7_odds 248 = .ok (.iload 7, 2) := by decide +kernel
theorem dX7_odds_250 : decode cX7_odds 250 = .ok (.bipush 8, 2) := by decide +kernel
theorem dX7_odds_252 : decode cX7_odds 252 = .ok (.if_icmp .ge 23, 3) := by decide +kernel
theorem dX7_odds_255 : decode cX7_odds 255 = .ok (.aload_n 0, 1) := by decide +kernel
theorem dX7_odds_256 : decode cX7_odds 256 = .ok (.getfield 56, 3) := by decide +kernel
theorem dX7_odds_259 : decode cX7_odds 259 = .ok (.iload 7, 2) := by decide +kernel
theorem dX7_odds_261 : decode cX7_odds 261 = .ok (.aload_n 0, 1) := by decide +kernel
theorem dX7_odds_262 : decode cX7_odds 262 = .ok (.getfield 60, 3) := by decide +kernel
theorem dX7_odds_265 : decode cX7_odds 265 = .ok (.iload 7, 2) := by decide +kernel
theorem dX7_odds_267 : decode cX7_odds 267 = .ok (.laload, 1) := by decide +kernel
theorem dX7_odds_268 : decode cX7_odds 268 = .ok (.lastore, 1) := by decide +kernel
theorem dX7_odds_269 : decode cX7_odds 269 = .ok (.iinc 7 1, 3) := by decide +kernel
theorem dX7_odds_272 : decode cX7_odds 272 = .ok (.goto (-24), 3) := by decide +kernel
theorem dX7_odds_275 : decode cX7_odds 275 = .ok (.iinc 6 1, 3) := by decide +kernel
theorem dX7_odds_278 : decode cX7_odds 278 = .ok (.goto (-198), 3) := by decide +kernel
theorem dX7_odds_281 : decode cX7_odds 281 = .ok (.aload_n 0, 1) := by decide +kernel
theorem dX7_odds_282 : decode cX7_odds 282 = .ok (.getfield 56, 3) := by decide +kernel
theorem dX7_odds_285 : decode cX7_odds 285 = .ok (.iload_n 1, 1) := by decide +kernel
theorem dX7_odds_286 : decode cX7_odds 286 = .ok (.laload, 1) := by decide +kernel
theorem dX7_odds_287 : decode cX7_odds 287 = .ok (.lload 4, 2) := by decide +kernel
theorem dX7_odds_289 : decode cX7_odds 289 = .ok (.invokestatic 212, 3) := by decide +kernel
theorem dX7_odds_292 : decode cX7_odds 292 = .ok (.lstore 6, 2) := by decide +kernel
theorem dX7_odds_294 : decode cX7_odds 294 = .ok (.iload_n 3, 1) := by decide +kernel
theorem dX7_odds_295 : decode cX7_odds 295 = .ok (.ifCond .ne 15, 3) := by decide +kernel
theorem dX7_odds_298 : decode cX7_odds 298 = .ok (.aload_n 0, 1) := by decide +kernel
theorem dX7_odds_299 : decode cX7_odds 299 = .ok (.getfield 56, 3) := by decide +kernel
theorem dX7_odds_302 : decode cX7_odds 302 = .ok (.iload_n 1, 1) := by decide +kernel
theorem dX7_odds_303 : decode cX7_odds 303 = .ok (.laload, 1) := by decide +kernel
theorem dX7_odds_304 : decode cX7_odds 304 = .ok (.lload 6, 2) := by decide +kernel
theorem dX7_odds_306 : decode cX7_odds 306 = .ok (.ldiv, 1) := by decide +kernel
theorem dX7_odds_307 : decode cX7_odds 307 = .ok (.goto 8, 3) := by decide +kernel
theorem dX7_odds_310 : decode cX7_odds 310 = .ok (.lload 4, 2) := by decide +kernel
theorem dX7_odds_312 : decode cX7_odds 312 = .ok (.lload 6, 2) := by decide +kernel
theorem dX7_odds_314 : decode cX7_odds 314 = .ok (.ldiv, 1) := by decide +kernel
theorem dX7_odds_315 : decode cX7_odds 315 = .ok (.lreturn, 1) := by decide +kernel
theorem dX7_rate_0 : decode cX7_rate 0 = .ok (.aload_n 0, 1) := by decide +kernel
theorem dX7_rate_1 : decode cX7_rate 1 = .ok (.iconst 0, 1) := by decide +kernel
theorem dX7_rate_2 : decode cX7_rate 2 = .ok (.putfield 69, 3) := by decide +kernel
theorem dX7_rate_5 : decode cX7_rate 5 = .ok (.iload_n 1, 1) := by decide +kernel
theorem dX7_rate_6 : decode cX7_rate 6 = .ok (.iconst 0, 1) := by decide +kernel
theorem dX7_rate_7 : decode cX7_rate 7 = .ok (.iconst 5, 1) := by decide +kernel
theorem dX7_rate_8 : decode cX7_rate 8 = .ok (.invokestatic 73, 3) := by decide +kernel
theorem dX7_rate_11 : decode cX7_rate 11 = .ok (.ifCond .eq 11, 3) := by decide +kernel
theorem dX7_rate_14 : decode cX7_rate 14 = .ok (.aload_n 0, 1) := by decide +kernel
theorem dX7_rate_15 : decode cX7_rate 15 = .ok (.iload_n 2, 1) := by decide +kernel
theorem dX7_rate_16 : decode cX7_rate 16 = .ok (.invokevirtual 143, 3) := by decide +kernel
theorem dX7_rate_19 : decode cX7_rate 19 = .ok (.ifCond .ne 6, 3) := by decide +kernel
theorem dX7_rate_22 : decode cX7_rate 22 = .ok (.ldc 216, 2) := by decide +kernel
theorem dX7_rate_24 : decode cX7_rate 24 = .ok (.ireturn, 1) := by decide +kernel
theorem dX7_rate_25 : decode cX7_rate 25 = .ok (.aload_n 0, 1) := by decide +kernel
theorem dX7_rate_26 : decode cX7_rate 26 = .ok (.getfield 19, 3) := by decide +kernel
theorem dX7_rate_29 : decode cX7_rate 29 = .ok (.iload_n 2, 1) := by decide +kernel
theorem dX7_rate_30 : decode cX7_rate 30 = .ok (.iaload, 1) := by decide +kernel
theorem dX7_rate_31 : decode cX7_rate 31 = .ok (.aload_n 0, 1) := by decide +kernel
theorem dX7_rate_32 : decode cX7_rate 32 = .ok (.getfield 25, 3) := by decide +kernel
theorem dX7_rate_35 : decode cX7_rate 35 = .ok (.iconst 5, 1) := by decide +kernel
theorem dX7_rate_36 : decode cX7_rate 36 = .ok (.iload_n 2, 1) := by decide +kernel
theorem dX7_rate_37 : decode cX7_rate 37 = .ok (.iadd, 1) := by decide +kernel
theorem dX7_rate_38 : decode cX7_rate 38 = .ok (.iaload, 1) := by decide +kernel
theorem dX7_rate_39 : decode cX7_rate 39 = .ok (.iadd, 1) := by decide +kernel
theorem dX7_rate_40 : decode cX7_rate 40 = .ok (.istore_n 3, 1) := by decide +kernel
theorem dX7_rate_41 : decode cX7_rate 41 = .ok (.iload_n 3, 1) := by decide +kernel
theorem dX7_rate_42 : decode cX7_rate 42 = .ok (.aload_n 0, 1) := by decide +kernel
theorem dX7_rate_43 : decode cX7_rate 43 = .ok (.getfield 25, 3) := by decide +kernel
theorem dX7_rate_46 : decode cX7_rate 46 = .ok (.iconst 5, 1) := by decide +kernel
theorem dX7_rate_47 : decode cX7_rate 47 = .ok (.iload_n 2, 1) := by decide +kernel
theorem dX7_rate_48 : decode cX7_rate 48 = .ok (.iadd, 1) := by decide +kernel
theorem dX7_rate_49 : decode cX7_rate 49 = .ok (.iaload, 1) := by decide +kernel
theorem dX7_rate_50 : decode cX7_rate 50 = .ok (.iadd, 1) := by decide +kernel
theorem dX7_rate_51 : decode cX7_rate 51 = .ok (.istore 4, 2) := by decide +kernel
theorem dX7_rate_53 : decode cX7_rate 53 = .ok (.iload_n 3, 1) := by decide +kernel
theorem dX7_rate_54 : decode cX7_rate 54 = .ok (.aload_n 0, 1) := by decide +kernel
theorem dX7_rate_55 : decode cX7_rate 55 = .ok (.getfield 25, 3) := by decide +kernel
theorem dX7_rate_58 : decode cX7_rate 58 = .ok (.iconst 4, 1) := by decide +kernel
theorem dX7_rate_59 : decode cX7_rate 59 = .ok (.iaload, 1) := by decide +kernel
theorem dX7_rate_60 : decode cX7_rate 60 = .ok (.invokestatic 178, 3) := by decide +kernel
theorem dX7_rate_63 : decode cX7_rate 63 = .ok (.isub, 1) := by decide +kernel
theorem dX7_rate_64 : decode cX7_rate 64 = .ok (.istore 5, 2) := by decide +kernel
theorem dX7_rate_66 : decode cX7_rate 66 = .ok (.aload_n 0, 1) := by decide +kernel
theorem dX7_rate_67 : decode cX7_rate 67 = .ok (.dup, 1) := by decide +kernel
theorem dX7_rate_68 : decode cX7_rate 68 = .ok (.getfield 217, 3) := by decide +kernel
theorem dX7_rate_71 : decode cX7_rate 71 = .ok (.iload_n 1, 1) := by decide +kernel
theorem dX7_rate_72 : decode cX7_rate 72 = .ok (.ifCond .ne 7, 3) := by decide +kernel
theorem dX7_rate_75 : decode cX7_rate 75 = .ok (.lconst 1, 1) := by decide +kernel
theorem dX7_rate_76 : decode cX7_rate 76 = .ok (.goto 50, 3) := by decide +kernel
theorem dX7_rate_79 : decode cX7_rate 79 = .ok (.iload_n 1, 1) := by decide +kernel
theorem dX7_rate_80 : decode cX7_rate 80 = .ok (.iconst 1, 1) := by decide +kernel
theorem dX7_rate_81 : decode cX7_rate 81 = .ok (.if_icmp .ne 9, 3) := by decide +kernel
theorem dX7_rate_84 : decode cX7_rate 84 = .ok (.ldc2_w 221, 3) := by decide +kernel
theorem dX7_rate_87 : decode cX7_rate 87 = .ok (.goto 39, 3) := by decide +kernel
theorem dX7_rate_90 : decode cX7_rate 90 = .ok (.iload_n 1, 1) := by decide +kernel
theorem dX7_rate_91 : decode cX7_rate 91 = .ok (.iconst 2, 1) := by decide +kernel
theorem dX7_rate_92 : decode cX7_rate 92 = .ok (.if_icmp .ne 9, 3) := by decide +kernel
theorem dX7_rate_95 : decode cX7_rate 95 = .ok (.ldc2_w 223, 3) := by decide +kernel
theorem dX7_rate_98 : decode cX7_rate 98 = .ok (.goto 28, 3) := by decide +kernel
theorem dX7_rate_101 : decode cX7_rate 101 = .ok (.iload_n 1, 1) := by decide +kernel
theorem dX7_rate_102 : decode cX7_rate 102 = .ok (.iconst 3, 1) := by decide +kernel
theorem dX7_rate_103 : decode cX7_rate 103 = .ok (.if_icmp .ne 9, 3) := by decide +kernel
theorem dX7_rate_106 : decode cX7_rate 106 = .ok (.ldc2_w 225, 3) := by decide +kernel
theorem dX7_rate_109 : decode cX7_rate 109 = .ok (.goto 17, 3) := by decide +kernel
theorem dX7_rate_112 : decode cX7_rate 112 = .ok (.iload_n 1, 1) := by decide +kernel
theorem dX7_rate_113 : decode cX7_rate 113 = .ok (.iconst 4, 1) := by decide +kernel
theorem dX7_rate_114 : decode cX7_rate 114 = .ok (.if_icmp .ne 9, 3) := by decide +kernel
theorem dX7_rate_117 : decode cX7_rate 117 = .ok (.ldc2_w 227, 3) := by decide +kernel
theorem dX7_rate_120 : decode cX7_rate 120 = .ok (.goto 6, 3) := by decide +kernel
theorem dX7_rate_123 : decode cX7_rate 123 = .ok (.ldc2_w 229, 3) := by decide +kernel
theorem dX7_rate_126 : decode cX7_rate 126 = .ok (.ladd, 1) := by decide +kernel
theorem dX7_rate_127 : decode cX7_rate 127 = .ok (.putfield 217, 3) := by decide +kernel
theorem dX7_rate_130 : decode cX7_rate 130 = .ok (.iload_n 1, 1) := by decide +kernel
theorem dX7_rate_131 : decode cX7_rate 131 = .ok (.ifCond .ne 7, 3) := by decide +kernel
theorem dX7_rate_134 : decode cX7_rate 134 = .ok (.iload_n 3, 1) := by decide +kernel
theorem dX7_rate_135 : decode cX7_rate 135 = .ok (.goto 55, 3) := by decide +kernel
theorem dX7_rate_138 : decode cX7_rate 138 = .ok (.iload_n 1, 1) := by decide +kernel
theorem dX7_rate_139 : decode cX7_rate 139 = .ok (.iconst 1, 1) := by decide +kernel
theorem dX7_rate_140 : decode cX7_rate 140 = .ok (.if_icmp .ne 8, 3) := by decide +kernel
theorem dX7_rate_143 : decode cX7_rate 143 = .ok (.iload 4, 2) := by decide +kernel
theorem dX7_rate_145 : decode cX7_rate 145 = .ok (.goto 45, 3) := by decide +kernel
theorem dX7_rate_148 : decode cX7_rate 148 = .ok (.iload_n 1, 1) := by decide +kernel
theorem dX7_rate_149 : decode cX7_rate 149 = .ok (.iconst 2, 1) := by decide +kernel
theorem dX7_rate_150 : decode cX7_rate 150 = .ok (.if_icmp .ne 8, 3) := by decide +kernel
theorem dX7_rate_153 : decode cX7_rate 153 = .ok (.iload 5, 2) := by decide +kernel
theorem dX7_rate_155 : decode cX7_rate 155 = .ok (.goto 35, 3) := by decide +kernel
theorem dX7_rate_158 : decode cX7_rate 158 = .ok (.iload_n 1, 1) := by decide +kernel
theorem dX7_rate_159 : decode cX7_rate 159 = .ok (.iconst 3, 1) := by decide +kernel
theorem dX7_rate_160 : decode cX7_rate 160 = .ok (.if_icmp .ne 10, 3) := by decide +kernel
theorem dX7_rate_163 : decode cX7_rate 163 = .ok (.iconst 2, 1) := by decide +kernel
theorem dX7_rate_164 : decode cX7_rate 164 = .ok (.iload 4, 2) := by decide +kernel
theorem dX7_rate_166 : decode cX7_rate 166 = .ok (.imul, 1) := by decide +kernel
theorem dX7_rate_167 : decode cX7_rate 167 = .ok (.goto 23, 3) := by decide +kernel
theorem dX7_rate_170 : decode cX7_rate 170 = .ok (.iload_n 1, 1) := by decide +kernel
theorem dX7_rate_171 : decode cX7_rate 171 = .ok (.iconst 4, 1) := by decide +kernel
theorem dX7_rate_172 : decode cX7_rate 172 = .ok (.if_icmp .ne 10, 3) := by decide +kernel
theorem dX7_rate_175 : decode cX7_rate 175 = .ok (.iload 5, 2) := by decide +kernel
theorem dX7_rate_177 : decode cX7_rate 177 = .ok (.iload_n 2, 1) := by decide +kernel
theorem dX7_rate_178 : decode cX7_rate 178 = .ok (.iadd, 1) := by decide +kernel
theorem dX7_rate_179 : decode cX7_rate 179 = .ok (.goto 11, 3) := by decide +kernel
theorem dX7_rate_182 : decode cX7_rate 182 = .ok (.iload_n 3, 1) := by decide +kernel
theorem dX7_rate_183 : decode cX7_rate 183 = .ok (.aload_n 0, 1) := by decide +kernel
theorem dX7_rate_184 : decode cX7_rate 184 = .ok (.getfield 25, 3) := by decide +kernel
theorem dX7_rate_187 : decode cX7_rate 187 = .ok (.iconst 3, 1) := by decide +kernel
theorem dX7_rate_188 : decode cX7_rate 188 = .ok (.iaload, 1) := by decide +kernel
theorem dX7_rate_189 : decode cX7_rate 189 = .ok (.iadd, 1) := by decide +kernel
theorem dX7_rate_190 : decode cX7_rate 190 = .ok (.ireturn, 1) := by decide +kernel
theorem dX7_keep_0 : decode cX7_keep 0 = .ok (.aload_n 0, 1) := by decide +kernel
theorem dX7_keep_1 : decode cX7_keep 1 = .ok (.iconst 0, 1) := by decide +kernel
theorem dX7_keep_2 : decode cX7_keep 2 = .ok (.putfield 69, 3) := by decide +kernel
theorem dX7_keep_5 : decode cX7_keep 5 = .ok (.iload_n 1, 1) := by decide +kernel
theorem dX7_keep_6 : decode cX7_keep 6 = .ok (.iconst 0, 1) := by decide +kernel
theorem dX7_keep_7 : decode cX7_keep 7 = .ok (.iconst 1, 1) := by decide +kernel
theorem dX7_keep_8 : decode cX7_keep 8 = .ok (.invokestatic 73, 3) := by decide +kernel
theorem dX7_keep_11 : decode cX7_keep 11 = .ok (.ifCond .ne 5, 3) := by decide +kernel
theorem dX7_keep_14 : decode cX7_keep 14 = .ok (.iconst (-1), 1) := by decide +kernel
theorem dX7_keep_15 : decode cX7_keep 15 = .ok (.ireturn, 1) := by decide +kernel
theorem dX7_keep_16 : decode cX7_keep 16 = .ok (.iconst 0, 1) := by decide +kernel
theorem dX7_keep_17 : decode cX7_keep 17 = .ok (.istore_n 2, 1) := by decide +kernel
theorem dX7_keep_18 : decode cX7_keep 18 = .ok (.iload_n 2, 1) := by decide +kernel
theorem dX7_keep_19 : decode cX7_keep 19 = .ok (.bipush 17, 2) := by decide +kernel
theorem dX7_keep_21 : decode cX7_keep 21 = .ok (.if_icmp .ge 26, 3) := by decide +kernel
theorem dX7_keep_24 : decode cX7_keep 24 = .ok (.aload_n 0, 1) := by decide +kernel
theorem dX7_keep_25 : decode cX7_keep 25 = .ok (.getfield 28, 3) := by decide +kernel
theorem dX7_keep_28 : decode cX7_keep 28 = .ok (.bipush 17, 2) := by decide +kernel
theorem dX7_keep_30 : decode cX7_keep 30 = .ok (.iload_n 1, 1) := by decide +kernel
theorem dX7_keep_31 : decode cX7_keep 31 = .ok (.imul, 1) := by decide +kernel
theorem dX7_keep_32 : decode cX7_keep 32 = .ok (.iload_n 2, 1) := by decide +kernel
theorem dX7_keep_33 : decode cX7_keep 33 = .ok (.iadd, 1) := by decide +kernel
theorem dX7_keep_34 : decode cX7_keep 34 = .ok (.aload_n 0, 1) := by decide +kernel
theorem dX7_keep_35 : decode cX7_keep 35 = .ok (.getfield 25, 3) := by decide +kernel
theorem dX7_keep_38 : decode cX7_keep 38 = .ok (.iload_n 2, 1) := by decide +kernel
theorem dX7_keep_39 : decode cX7_keep 39 = .ok (.iaload, 1) := by decide +kernel
theorem dX7_keep_40 : decode cX7_keep 40 = .ok (.iastore, 1) := by decide +kernel
theorem dX7_keep_41 : decode cX7_keep 41 = .ok (.iinc 2 1, 3) := by decide +kernel
theorem dX7_keep_44 : decode cX7_keep 44 = .ok (.goto (-26), 3) := by decide +kernel
theorem dX7_keep_47 : decode cX7_keep 47 = .ok (.aload_n 0, 1) := by decide +kernel
theorem dX7_keep_48 : decode cX7_keep 48 = .ok (.getfield 31, 3) := by decide +kernel
theorem dX7_keep_51 : decode cX7_keep 51 = .ok (.iload_n 1, 1) := by decide +kernel
theorem dX7_keep_52 : decode cX7_keep 52 = .ok (.iconst 1, 1) := by decide +kernel
theorem dX7_keep_53 : decode cX7_keep 53 = .ok (.bastore, 1) := by decide +kernel
theorem dX7_keep_54 : decode cX7_keep 54 = .ok (.aload_n 0, 1) := by decide +kernel
theorem dX7_keep_55 : decode cX7_keep 55 = .ok (.getfield 25, 3) := by decide +kernel
theorem dX7_keep_58 : decode cX7_keep 58 = .ok (.iconst 2, 1) := by decide +kernel
theorem dX7_keep_59 : decode cX7_keep 59 = .ok (.iaload, 1) := by decide +kernel
theorem dX7_keep_60 : decode cX7_keep 60 = .ok (.ireturn, 1) := by decide +kernel
theorem dX7_back_0 : decode cX7_back 0 = .ok (.aload_n 0, 1) := by decide +kernel
theorem dX7_back_1 : decode cX7_back 1 = .ok (.iconst 0, 1) := by decide +kernel
theorem dX7_back_2 : decode cX7_back 2 = .ok (.putfield 69, 3) := by decide +kernel
theorem dX7_back_5 : decode cX7_back 5 = .ok (.iload_n 1, 1) := by decide +kernel
theorem dX7_back_6 : decode cX7_back 6 = .ok (.iconst 0, 1) := by decide +kernel
theorem dX7_back_7 : decode cX7_back 7 = .ok (.iconst 1, 1) := by decide +kernel
theorem dX7_back_8 : decode cX7_back 8 = .ok (.invokestatic 73, 3) := by decide +kernel
theorem dX7_back_11 : decode cX7_back 11 = .ok (.ifCond .ne 5, 3) := by decide +kernel
theorem dX7_back_14 : decode cX7_back 14 = .ok (.iconst (-1), 1) := by decide +kernel
theorem dX7_back_15 : decode cX7_back 15 = .ok (.ireturn, 1) := by decide +kernel
theorem dX7_back_16 : decode cX7_back 16 = .ok (.aload_n 0, 1) := by decide +kernel
theorem dX7_back_17 : decode cX7_back 17 = .ok (.getfield 31, 3) := by decide +kernel
theorem dX7_back_20 : decode cX7_back 20 = .ok (.iload_n 1, 1) := by decide +kernel
theorem dX7_back_21 : decode cX7_back 21 = .ok (.baload, 1) := by decide +kernel
theorem dX7_back_22 : decode cX7_back 22 = .ok (.ifCond .ne 6, 3) := by decide +kernel
theorem dX7_back_25 : decode cX7_back 25 = .ok (.bipush (-2), 2) := by decide +kernel
theorem dX7_back_27 : decode cX7_back 27 = .ok (.ireturn, 1) := by decide +kernel
theorem dX7_back_28 : decode cX7_back 28 = .ok (.iconst 0, 1) := by decide +kernel
theorem dX7_back_29 : decode cX7_back 29 = .ok (.istore_n 2, 1) := by decide +kernel
theorem dX7_back_30 : decode cX7_back 30 = .ok (.iload_n 2, 1) := by decide +kernel
theorem dX7_back_31 : decode cX7_back 31 = .ok (.bipush 17, 2) := by decide +kernel
theorem dX7_back_33 : decode cX7_back 33 = .ok (.if_icmp .ge 26, 3) := by decide +kernel
theorem dX7_back_36 : decode cX7_back 36 = .ok (.aload_n 0, 1) := by decide +kernel
theorem dX7_back_37 : decode cX7_back 37 = .ok (.getfield 25, 3) := by decide +kernel
theorem dX7_back_40 : decode cX7_back 40 = .ok (.iload_n 2, 1) := by decide +kernel
theorem dX7_back_41 : decode cX7_back 41 = .ok (.aload_n 0, 1) := by decide +kernel
theorem dX7_back_42 : decode cX7_back 42 = .ok (.getfield 28, 3) := by decide +kernel
theorem dX7_back_45 : decode cX7_back 45 = .ok (.bipush 17, 2) := by decide +kernel
theorem dX7_back_47 : decode cX7_back 47 = .ok (.iload_n 1, 1) := by decide +kernel
theorem dX7_back_48 : decode cX7_back 48 = .ok (.imul, 1) := by decide +kernel
theorem dX7_back_49 : decode cX7_back 49 = .ok (.iload_n 2, 1) := by decide +kernel
theorem dX7_back_50 : decode cX7_back 50 = .ok (.iadd, 1) := by decide +kernel
theorem dX7_back_51 : decode cX7_back 51 = .ok (.iaload, 1) := by decide +kernel
theorem dX7_back_52 : decode cX7_back 52 = .ok (.iastore, 1) := by decide +kernel
theorem dX7_back_53 : decode cX7_back 53 = .ok (.iinc 2 1, 3) := by decide +kernel
theorem dX7_back_56 : decode cX7_back 56 = .ok (.goto (-26), 3) := by decide +kernel
theorem dX7_back_59 : decode cX7_back 59 = .ok (.aload_n 0, 1) := by decide +kernel
theorem dX7_back_60 : decode cX7_back 60 = .ok (.iconst 0, 1) := by decide +kernel
theorem dX7_back_61 : decode cX7_back 61 = .ok (.putfield 140, 3) := by decide +kernel
theorem dX7_back_64 : decode cX7_back 64 = .ok (.aload_n 0, 1) := by decide +kernel
theorem dX7_back_65 : decode cX7_back 65 = .ok (.getfield 25, 3) := by decide +kernel
theorem dX7_back_68 : decode cX7_back 68 = .ok (.iconst 2, 1) := by decide +kernel
theorem dX7_back_69 : decode cX7_back 69 = .ok (.iaload, 1) := by decide +kernel
theorem dX7_back_70 : decode cX7_back 70 = .ok (.ireturn, 1) := by decide +kernel
theorem dX7_count_0 : decode cX7_count 0 = .ok (.aload_n 0, 1) := by decide +kernel
theorem dX7_count_1 : decode cX7_count 1 = .ok (.iconst 0, 1) := by decide +kernel
theorem dX7_count_2 : decode cX7_count 2 = .ok (.putfield 69, 3) := by decide +kernel
theorem dX7_count_5 : decode cX7_count 5 = .ok (.iload_n 1, 1) := by decide +kernel
theorem dX7_count_6 : decode cX7_count 6 = .ok (.iconst 0, 1) := by decide +kernel
theorem dX7_count_7 : decode cX7_count 7 = .ok (.iconst 5, 1) := by decide +kernel
theorem dX7_count_8 : decode cX7_count 8 = .ok (.invokestatic 73, 3) := by decide +kernel
theorem dX7_count_11 : decode cX7_count 11 = .ok (.ifCond .eq 12, 3) := by decide +kernel
theorem dX7_count_14 : decode cX7_count 14 = .ok (.aload_n 0, 1) := by decide +kernel
theorem dX7_count_15 : decode cX7_count 15 = .ok (.getfield 13, 3) := by decide +kernel
theorem dX7_count_18 : decode cX7_count 18 = .ok (.iload_n 1, 1) := by decide +kernel
theorem dX7_count_19 : decode cX7_count 19 = .ok (.iaload, 1) := by decide +kernel
theorem dX7_count_20 : decode cX7_count 20 = .ok (.goto 43, 3) := by decide +kernel
theorem dX7_count_23 : decode cX7_count 23 = .ok (.iload_n 1, 1) := by decide +kernel
theorem dX7_count_24 : decode cX7_count 24 = .ok (.bipush 6, 2) := by decide +kernel
theorem dX7_count_26 : decode cX7_count 26 = .ok (.if_icmp .ne 10, 3) := by decide +kernel
theorem dX7_count_29 : decode cX7_count 29 = .ok (.aload_n 0, 1) := by decide +kernel
theorem dX7_count_30 : decode cX7_count 30 = .ok (.getfield 134, 3) := by decide +kernel
theorem dX7_count_33 : decode cX7_count 33 = .ok (.goto 30, 3) := by decide +kernel
theorem dX7_count_36 : decode cX7_count 36 = .ok (.iload_n 1, 1) := by decide +kernel
theorem dX7_count_37 : decode cX7_count 37 = .ok (.bipush 7, 2) := by decide +kernel
theorem dX7_count_39 : decode cX7_count 39 = .ok (.if_icmp .ne 10, 3) := by decide +kernel
theorem dX7_count_42 : decode cX7_count 42 = .ok (.aload_n 0, 1) := by decide +kernel
theorem dX7_count_43 : decode cX7_count 43 = .ok (.getfield 137, 3) := by decide +kernel
theorem dX7_count_46 : decode cX7_count 46 = .ok (.goto 17, 3) := by decide +kernel
theorem dX7_count_49 : decode cX7_count 49 = .ok (.iload_n 1, 1) := by decide +kernel
theorem dX7_count_50 : decode cX7_count 50 = .ok (.bipush 8, 2) := by decide +kernel
theorem dX7_count_52 : decode cX7_count 52 = .ok (.if_icmp .ne 10, 3) := by decide +kernel
theorem dX7_count_55 : decode cX7_count 55 = .ok (.aload_n 0, 1) := by decide +kernel
theorem dX7_count_56 : decode cX7_count 56 = .ok (.getfield 77, 3) := by decide +kernel
theorem dX7_count_59 : decode cX7_count 59 = .ok (.goto 4, 3) := by decide +kernel
theorem dX7_count_62 : decode cX7_count 62 = .ok (.iconst (-1), 1) := by decide +kernel
theorem dX7_count_63 : decode cX7_count 63 = .ok (.ireturn, 1) := by decide +kernel
theorem dX7_trace_0 : decode cX7_trace 0 = .ok (.aload_n 0, 1) := by decide +kernel
theorem dX7_trace_1 : decode cX7_trace 1 = .ok (.iconst 0, 1) := by decide +kernel
theorem dX7_trace_2 : decode cX7_trace 2 = .ok (.putfield 69, 3) := by decide +kernel
theorem dX7_trace_5 : decode cX7_trace 5 = .ok (.aload_n 0, 1) := by decide +kernel
theorem dX7_trace_6 : decode cX7_trace 6 = .ok (.getfield 217, 3) := by decide +kernel
theorem dX7_trace_9 : decode cX7_trace 9 = .ok (.lreturn, 1) := by decide +kernel
theorem dJ6_bitCount_0f7a4_0 : decode cJ6_bitCount_0f7a4 0 = .ok (.iload_n 0, 1) := by decide +kernel
theorem dJ6_bitCount_0f7a4_1 : decode cJ6_bitCount_0f7a4 1 = .ok (.iload_n 0, 1) := by decide +kernel
theorem dJ6_bitCount_0f7a4_2 : decode cJ6_bitCount_0f7a4 2 = .ok (.iconst 1, 1) := by decide +kernel
theorem dJ6_bitCount_0f7a4_3 : decode cJ6_bitCount_0f7a4 3 = .ok (.iushr, 1) := by decide +kernel
theorem dJ6_bitCount_0f7a4_4 : decode cJ6_bitCount_0f7a4 4 = .ok (.ldc_w 265, 3) := by decide +kernel
theorem dJ6_bitCount_0f7a4_7 : decode cJ6_bitCount_0f7a4 7 = .ok (.iand, 1) := by decide +kernel
theorem dJ6_bitCount_0f7a4_8 : decode cJ6_bitCount_0f7a4 8 = .ok (.isub, 1) := by decide +kernel
theorem dJ6_bitCount_0f7a4_9 : decode cJ6_bitCount_0f7a4 9 = .ok (.istore_n 0, 1) := by decide +kernel
theorem dJ6_bitCount_0f7a4_10 : decode cJ6_bitCount_0f7a4 10 = .ok (.iload_n 0, 1) := by decide +kernel
theorem dJ6_bitCount_0f7a4_11 : decode cJ6_bitCount_0f7a4 11 = .ok (.ldc_w 266, 3) := by decide +kernel
theorem dJ6_bitCount_0f7a4_14 : decode cJ6_bitCount_0f7a4 14 = .ok (.iand, 1) := by decide +kernel
theorem dJ6_bitCount_0f7a4_15 : decode cJ6_bitCount_0f7a4 15 = .ok (.iload_n 0, 1) := by decide +kernel
theorem dJ6_bitCount_0f7a4_16 : decode cJ6_bitCount_0f7a4 16 = .ok (.iconst 2, 1) := by decide +kernel
theorem dJ6_bitCount_0f7a4_17 : decode cJ6_bitCount_0f7a4 17 = .ok (.iushr, 1) := by decide +kernel
theorem dJ6_bitCount_0f7a4_18 : decode cJ6_bitCount_0f7a4 18 = .ok (.ldc_w 266, 3) := by decide +kernel
theorem dJ6_bitCount_0f7a4_21 : decode cJ6_bitCount_0f7a4 21 = .ok (.iand, 1) := by decide +kernel
theorem dJ6_bitCount_0f7a4_22 : decode cJ6_bitCount_0f7a4 22 = .ok (.iadd, 1) := by decide +kernel
theorem dJ6_bitCount_0f7a4_23 : decode cJ6_bitCount_0f7a4 23 = .ok (.istore_n 0, 1) := by decide +kernel
theorem dJ6_bitCount_0f7a4_24 : decode cJ6_bitCount_0f7a4 24 = .ok (.iload_n 0, 1) := by decide +kernel
theorem dJ6_bitCount_0f7a4_25 : decode cJ6_bitCount_0f7a4 25 = .ok (.iload_n 0, 1) := by decide +kernel
theorem dJ6_bitCount_0f7a4_26 : decode cJ6_bitCount_0f7a4 26 = .ok (.iconst 4, 1) := by decide +kernel
theorem dJ6_bitCount_0f7a4_27 : decode cJ6_bitCount_0f7a4 27 = .ok (.iushr, 1) := by decide +kernel
theorem dJ6_bitCount_0f7a4_28 : decode cJ6_bitCount_0f7a4 28 = .ok (.iadd, 1) := by decide +kernel
theorem dJ6_bitCount_0f7a4_29 : decode cJ6_bitCount_0f7a4 29 = .ok (.ldc_w 267, 3) := by decide +kernel
theorem dJ6_bitCount_0f7a4_32 : decode cJ6_bitCount_0f7a4 32 = .ok (.iand, 1) := by decide +kernel
theorem dJ6_bitCount_0f7a4_33 : decode cJ6_bitCount_0f7a4 33 = .ok (.istore_n 0, 1) := by decide +kernel
theorem dJ6_bitCount_0f7a4_34 : decode cJ6_bitCount_0f7a4 34 = .ok (.iload_n 0, 1) := by decide +kernel
theorem dJ6_bitCount_0f7a4_35 : decode cJ6_bitCount_0f7a4 35 = .ok (.iload_n 0, 1) := by decide +kernel
theorem dJ6_bitCount_0f7a4_36 : decode cJ6_bitCount_0f7a4 36 = .ok (.bipush 8, 2) := by decide +kernel
theorem dJ6_bitCount_0f7a4_38 : decode cJ6_bitCount_0f7a4 38 = .ok (.iushr, 1) := by decide +kernel
theorem dJ6_bitCount_0f7a4_39 : decode cJ6_bitCount_0f7a4 39 = .ok (.iadd, 1) := by decide +kernel
theorem dJ6_bitCount_0f7a4_40 : decode cJ6_bitCount_0f7a4 40 = .ok (.istore_n 0, 1) := by decide +kernel
theorem dJ6_bitCount_0f7a4_41 : decode cJ6_bitCount_0f7a4 41 = .ok (.iload_n 0, 1) := by decide +kernel
theorem dJ6_bitCount_0f7a4_42 : decode cJ6_bitCount_0f7a4 42 = .ok (.iload_n 0, 1) := by decide +kernel
theorem dJ6_bitCount_0f7a4_43 : decode cJ6_bitCount_0f7a4 43 = .ok (.bipush 16, 2) := by decide +kernel
theorem dJ6_bitCount_0f7a4_45 : decode cJ6_bitCount_0f7a4 45 = .ok (.iushr, 1) := by decide +kernel
theorem dJ6_bitCount_0f7a4_46 : decode cJ6_bitCount_0f7a4 46 = .ok (.iadd, 1) := by decide +kernel
theorem dJ6_bitCount_0f7a4_47 : decode cJ6_bitCount_0f7a4 47 = .ok (.istore_n 0, 1) := by decide +kernel
theorem dJ6_bitCount_0f7a4_48 : decode cJ6_bitCount_0f7a4 48 = .ok (.iload_n 0, 1) := by decide +kernel
theorem dJ6_bitCount_0f7a4_49 : decode cJ6_bitCount_0f7a4 49 = .ok (.bipush 63, 2) := by decide +kernel
theorem dJ6_bitCount_0f7a4_51 : decode cJ6_bitCount_0f7a4 51 = .ok (.iand, 1) := by decide +kernel
theorem dJ6_bitCount_0f7a4_52 : decode cJ6_bitCount_0f7a4 52 = .ok (.ireturn, 1) := by decide +kernel
theorem dJ9_min_7cf53_0 : decode cJ9_min_7cf53 0 = .ok (.iload_n 0, 1) := by decide +kernel
theorem dJ9_min_7cf53_1 : decode cJ9_min_7cf53 1 = .ok (.iload_n 1, 1) := by decide +kernel
theorem dJ9_min_7cf53_2 : decode cJ9_min_7cf53 2 = .ok (.if_icmp .gt 7, 3) := by decide +kernel
theorem dJ9_min_7cf53_5 : decode cJ9_min_7cf53 5 = .ok (.iload_n 0, 1) := by decide +kernel
theorem dJ9_min_7cf53_6 : decode cJ9_min_7cf53 6 = .ok (.goto 4, 3) := by decide +kernel
theorem dJ9_min_7cf53_9 : decode cJ9_min_7cf53 9 = .ok (.iload_n 1, 1) := by decide +kernel
theorem dJ9_min_7cf53_10 : decode cJ9_min_7cf53 10 = .ok (.ireturn, 1) := by decide +kernel
theorem dL_law_0 : decode cL_law 0 = .ok (.new 7, 3) := by decide +kernel
theorem dL_law_3 : decode cL_law 3 = .ok (.dup, 1) := by decide +kernel
theorem dL_law_4 : decode cL_law 4 = .ok (.invokespecial 9, 3) := by decide +kernel
theorem dL_law_7 : decode cL_law 7 = .ok (.astore_n 1, 1) := by decide +kernel
theorem dL_law_8 : decode cL_law 8 = .ok (.new 10, 3) := by decide +kernel
theorem dL_law_11 : decode cL_law 11 = .ok (.dup, 1) := by decide +kernel
theorem dL_law_12 : decode cL_law 12 = .ok (.invokespecial 12, 3) := by decide +kernel
theorem dL_law_15 : decode cL_law 15 = .ok (.astore_n 2, 1) := by decide +kernel
theorem dL_law_16 : decode cL_law 16 = .ok (.iconst 0, 1) := by decide +kernel
theorem dL_law_17 : decode cL_law 17 = .ok (.istore_n 3, 1) := by decide +kernel
theorem dL_law_18 : decode cL_law 18 = .ok (.iload_n 3, 1) := by decide +kernel
theorem dL_law_19 : decode cL_law 19 = .ok (.aload_n 0, 1) := by decide +kernel
theorem dL_law_20 : decode cL_law 20 = .ok (.arraylength, 1) := by decide +kernel
theorem dL_law_21 : decode cL_law 21 = .ok (.iconst 4, 1) := by decide +kernel
theorem dL_law_22 : decode cL_law 22 = .ok (.isub, 1) := by decide +kernel
theorem dL_law_23 : decode cL_law 23 = .ok (.if_icmp .gt 836, 3) := by decide +kernel
theorem dL_law_26 : decode cL_law 26 = .ok (.aload_n 0, 1) := by decide +kernel
theorem dL_law_27 : decode cL_law 27 = .ok (.iload_n 3, 1) := by decide +kernel
theorem dL_law_28 : decode cL_law 28 = .ok (.iaload, 1) := by decide +kernel
theorem dL_law_29 : decode cL_law 29 = .ok (.bipush 31, 2) := by decide +kernel
theorem dL_law_31 : decode cL_law 31 = .ok (.iand, 1) := by decide +kernel
theorem dL_law_32 : decode cL_law 32 = .ok (.tableswitch 821 0 28 #[132, 155, 168, 181, 214, 237, 260, 283, 316, 349, 362, 385, 398, 421, 444, 467, 480, 503, 536, 559, 592, 605, 628, 661, 705, 738, 761, 784, 807], 132) := by decide +kernel
theorem dL_law_164 : decode cL_law 164 = .ok (.aload_n 1, 1) := by decide +kernel
theorem dL_law_165 : decode cL_law 165 = .ok (.aload_n 0, 1) := by decide +kernel
theorem dL_law_166 : decode cL_law 166 = .ok (.iload_n 3, 1) := by decide +kernel
theorem dL_law_167 : decode cL_law 167 = .ok (.iconst 1, 1) := by decide +kernel
theorem dL_law_168 : decode cL_law 168 = .ok (.iadd, 1) := by decide +kernel
theorem dL_law_169 : decode cL_law 169 = .ok (.iaload, 1) := by decide +kernel
theorem dL_law_170 : decode cL_law 170 = .ok (.invokevirtual 13, 3) := by decide +kernel
theorem dL_law_173 : decode cL_law 173 = .ok (.aload_n 2, 1) := by decide +kernel
theorem dL_law_174 : decode cL_law 174 = .ok (.aload_n 0, 1) := by decide +kernel
theorem dL_law_175 : decode cL_law 175 = .ok (.iload_n 3, 1) := by decide +kernel
theorem dL_law_176 : decode cL_law 176 = .ok (.iconst 1, 1) := by decide +kernel
theorem dL_law_177 : decode cL_law 177 = .ok (.iadd, 1) := by decide +kernel
theorem dL_law_178 : decode cL_law 178 = .ok (.iaload, 1) := by decide +kernel
theorem dL_law_179 : decode cL_law 179 = .ok (.invokevirtual 17, 3) := by decide +kernel
theorem dL_law_182 : decode cL_law 182 = .ok (.if_icmp .eq 671, 3) := by decide +kernel
theorem dL_law_185 : decode cL_law 185 = .ok (.iconst 0, 1) := by decide +kernel
theorem dL_law_186 : decode cL_law 186 = .ok (.ireturn, 1) := by decide +kernel
theorem dL_law_187 : decode cL_law 187 = .ok (.aload_n 1, 1) := by decide +kernel
theorem dL_law_188 : decode cL_law 188 = .ok (.invokevirtual 18, 3) := by decide +kernel
theorem dL_law_191 : decode cL_law 191 = .ok (.aload_n 2, 1) := by decide +kernel
theorem dL_law_192 : decode cL_law 192 = .ok (.invokevirtual 22, 3) := by decide +kernel
theorem dL_law_195 : decode cL_law 195 = .ok (.if_icmp .eq 658, 3) := by decide +kernel
theorem dL_law_198 : decode cL_law 198 = .ok (.iconst 0, 1) := by decide +kernel
theorem dL_law_199 : decode cL_law 199 = .ok (.ireturn, 1) := by decide +kernel
theorem dL_law_200 : decode cL_law 200 = .ok (.aload_n 1, 1) := by decide +kernel
theorem dL_law_201 : decode cL_law 201 = .ok (.invokevirtual 23, 3) := by decide +kernel
theorem dL_law_204 : decode cL_law 204 = .ok (.aload_n 2, 1) := by decide +kernel
theorem dL_law_205 : decode cL_law 205 = .ok (.invokevirtual 26, 3) := by decide +kernel
theorem dL_law_208 : decode cL_law 208 = .ok (.if_icmp .eq 645, 3) := by decide +kernel
theorem dL_law_211 : decode cL_law 211 = .ok (.iconst 0, 1) := by decide +kernel
theorem dL_law_212 : decode cL_law 212 = .ok (.ireturn, 1) := by decide +kernel
theorem dL_law_213 : decode cL_law 213 = .ok (.aload_n 1, 1) := by decide +kernel
theorem dL_law_214 : decode cL_law 214 = .ok (.aload_n 0, 1) := by decide +kernel
theorem dL_law_215 : decode cL_law 215 = .ok (.iload_n 3, 1) := by decide +kernel
theorem dL_law_216 : decode cL_law 216 = .ok (.iconst 1, 1) := by decide +kernel
theorem dL_law_217 : decode cL_law 217 = .ok (.iadd, 1) := by decide +kernel
theorem dL_law_218 : decode cL_law 218 = .ok (.iaload, 1) := by decide +kernel
theorem dL_law_219 : decode cL_law 219 = .ok (.aload_n 0, 1) := by decide +kernel
theorem dL_law_220 : decode cL_law 220 = .ok (.iload_n 3, 1) := by decide +kernel
theorem dL_law_221 : decode cL_law 221 = .ok (.iconst 2, 1) := by decide +kernel
theorem dL_law_222 : decode cL_law 222 = .ok (.iadd, 1) := by decide +kernel
theorem dL_law_223 : decode cL_law 223 = .ok (.iaload, 1) := by decide +kernel
theorem dL_law_224 : decode cL_law 224 = .ok (.invokevirtual 27, 3) := by decide +kernel
theorem dL_law_227 : decode cL_law 227 = .ok (.aload_n 2, 1) := by decide +kernel
theorem dL_law_228 : decode cL_law 228 = .ok (.aload_n 0, 1) := by decide +kernel
theorem dL_law_229 : decode cL_law 229 = .ok (.iload_n 3, 1) := by decide +kernel
theorem dL_law_230 : decode cL_law 230 = .ok (.iconst 1, 1) := by decide +kernel
theorem dL_law_231 : decode cL_law 231 = .ok (.iadd, 1) := by decide +kernel
theorem dL_law_232 : decode cL_law 232 = .ok (.iaload, 1) := by decide +kernel
theorem dL_law_233 : decode cL_law 233 = .ok (.aload_n 0, 1) := by decide +kernel
theorem dL_law_234 : decode cL_law 234 = .ok (.iload_n 3, 1) := by decide +kernel
theorem dL_law_235 : decode cL_law 235 = .ok (.iconst 2, 1) := by decide +kernel
theorem dL_law_236 : decode cL_law 236 = .ok (.iadd, 1) := by decide +kernel
theorem dL_law_237 : decode cL_law 237 = .ok (.iaload, 1) := by decide +kernel
theorem dL_law_238 : decode cL_law 238 = .ok (.invokevirtual 31, 3) := by decide +kernel
theorem dL_law_241 : decode cL_law 241 = .ok (.if_icmp .eq 612, 3) := by decide +kernel
theorem dL_law_244 : decode cL_law 244 = .ok (.iconst 0, 1) := by decide +kernel
theorem dL_law_245 : decode cL_law 245 = .ok (.ireturn, 1) := by decide +kernel
theorem dL_law_246 : decode cL_law 246 = .ok (.aload_n 1, 1) := by decide +kernel
theorem dL_law_247 : decode cL_law 247 = .ok (.aload_n 0, 1) := by decide +kernel
theorem dL_law_248 : decode cL_law 248 = .ok (.iload_n 3, 1) := by decide +kernel
theorem dL_law_249 : decode cL_law 249 = .ok (.iconst 1, 1) := by decide +kernel
theorem dL_law_250 : decode cL_law 250 = .ok (.iadd, 1) := by decide +kernel
theorem dL_law_251 : decode cL_law 251 = .ok (.iaload, 1) := by decide +kernel
theorem dL_law_252 : decode cL_law 252 = .ok (.invokevirtual 32, 3) := by decide +kernel
theorem dL_law_255 : decode cL_law 255 = .ok (.aload_n 2, 1) := by decide +kernel
theorem dL_law_256 : decode cL_law 256 = .ok (.aload_n 0, 1) := by decide +kernel
theorem dL_law_257 : decode cL_law 257 = .ok (.iload_n 3, 1) := by decide +kernel
theorem dL_law_258 : decode cL_law 258 = .ok (.iconst 1, 1) := by decide +kernel
theorem dL_law_259 : decode cL_law 259 = .ok (.iadd, 1) := by decide +kernel
theorem dL_law_260 : decode cL_law 260 = .ok (.iaload, 1) := by decide +kernel
theorem dL_law_261 : decode cL_law 261 = .ok (.invokevirtual 35, 3) := by decide +kernel
theorem dL_law_264 : decode cL_law 264 = .ok (.if_icmp .eq 589, 3) := by decide +kernel
theorem dL_law_267 : decode cL_law 267 = .ok (.iconst 0, 1) := by decide +kernel
theorem dL_law_268 : decode cL_law 268 = .ok (.ireturn, 1) := by decide +kernel
theorem dL_law_269 : decode cL_law 269 = .ok (.aload_n 1, 1) := by decide +kernel
theorem dL_law_270 : decode cL_law 270 = .ok (.aload_n 0, 1) := by decide +kernel
theorem dL_law_271 : decode cL_law 271 = .ok (.iload_n 3, 1) := by decide +kernel
theorem dL_law_272 : decode cL_law 272 = .ok (.iconst 1, 1) := by decide +kernel
theorem dL_law_273 : decode cL_law 273 = .ok (.iadd, 1) := by decide +kernel
theorem dL_law_274 : decode cL_law 274 = .ok (.iaload, 1) := by decide +kernel
theorem dL_law_275 : decode cL_law 275 = .ok (.invokevirtual 36, 3) := by decide +kernel
end
section
theorem dL_law_278 : decode cL_law 278 = .ok (.aload_n 2, 1) := by decide +kernel
theorem dL_law_279 : decode cL_law 279 = .ok (.aload_n 0, 1) := by decide +kernel
theorem dL_law_280 : decode cL_law 280 = .ok (.iload_n 3, 1) := by decide +kernel
theorem dL_law_281 : decode cL_law 281 = .ok (.iconst 1, 1) := by decide +kernel
theorem dL_law_282 : decode cL_law 282 = .ok (.iadd, 1) := by decide +kernel
theorem dL_law_283 : decode cL_law 283 = .ok (.iaload, 1) := by decide +kernel
theorem dL_law_284 : decode cL_law 284 = .ok (.invokevirtual 39, 3) := by decide +kernel
theorem dL_law_287 : decode cL_law 287 = .ok (.if_icmp .eq 566, 3) := by decide +kernel
theorem dL_law_290 : decode cL_law 290 = .ok (.iconst 0, 1) := by decide +kernel
theorem dL_law_291 : decode cL_law 291 = .ok (.ireturn, 1) := by decide +kernel
theorem dL_law_292 : decode cL_law 292 = .ok (.aload_n 1, 1) := by decide +kernel
theorem dL_law_293 : decode cL_law 293 = .ok (.aload_n 0, 1) := by decide +kernel
theorem dL_law_294 : decode cL_law 294 = .ok (.iload_n 3, 1) := by decide +kernel
theorem dL_law_295 : decode cL_law 295 = .ok (.iconst 1, 1) := by decide +kernel
theorem dL_law_296 : decode cL_law 296 = .ok (.iadd, 1) := by decide +kernel
theorem dL_law_297 : decode cL_law 297 = .ok (.iaload, 1) := by decide +kernel
theorem dL_law_298 : decode cL_law 298 = .ok (.invokevirtual 40, 3) := by decide +kernel
theorem dL_law_301 : decode cL_law 301 = .ok (.aload_n 2, 1) := by decide +kernel
theorem dL_law_302 : decode cL_law 302 = .ok (.aload_n 0, 1) := by decide +kernel
theorem dL_law_303 : decode cL_law 303 = .ok (.iload_n 3, 1) := by decide +kernel
theorem dL_law_304 : decode cL_law 304 = .ok (.iconst 1, 1) := by decide +kernel
theorem dL_law_305 : decode cL_law 305 = .ok (.iadd, 1) := by decide +kernel
theorem dL_law_306 : decode cL_law 306 = .ok (.iaload, 1) := by decide +kernel
theorem dL_law_307 : decode cL_law 307 = .ok (.invokevirtual 43, 3) := by decide +kernel
theorem dL_law_310 : decode cL_law 310 = .ok (.if_icmp .eq 543, 3) := by decide +kernel
theorem dL_law_313 : decode cL_law 313 = .ok (.iconst 0, 1) := by decide +kernel
theorem dL_law_314 : decode cL_law 314 = .ok (.ireturn, 1) := by decide +kernel
theorem dL_law_315 : decode cL_law 315 = .ok (.aload_n 1, 1) := by decide +kernel
theorem dL_law_316 : decode cL_law 316 = .ok (.aload_n 0, 1) := by decide +kernel
theorem dL_law_317 : decode cL_law 317 = .ok (.iload_n 3, 1) := by decide +kernel
theorem dL_law_318 : decode cL_law 318 = .ok (.iconst 1, 1) := by decide +kernel
theorem dL_law_319 : decode cL_law 319 = .ok (.iadd, 1) := by decide +kernel
theorem dL_law_320 : decode cL_law 320 = .ok (.iaload, 1) := by decide +kernel
theorem dL_law_321 : decode cL_law 321 = .ok (.aload_n 0, 1) := by decide +kernel
theorem dL_law_322 : decode cL_law 322 = .ok (.iload_n 3, 1) := by decide +kernel
theorem dL_law_323 : decode cL_law 323 = .ok (.iconst 2, 1) := by decide +kernel
theorem dL_law_324 : decode cL_law 324 = .ok (.iadd, 1) := by decide +kernel
theorem dL_law_325 : decode cL_law 325 = .ok (.iaload, 1) := by decide +kernel
theorem dL_law_326 : decode cL_law 326 = .ok (.invokevirtual 44, 3) := by decide +kernel
theorem dL_law_329 : decode cL_law 329 = .ok (.aload_n 2, 1) := by decide +kernel
theorem dL_law_330 : decode cL_law 330 = .ok (.aload_n 0, 1) := by decide +kernel
theorem dL_law_331 : decode cL_law 331 = .ok (.iload_n 3, 1) := by decide +kernel
theorem dL_law_332 : decode cL_law 332 = .ok (.iconst 1, 1) := by decide +kernel
theorem dL_law_333 : decode cL_law 333 = .ok (.iadd, 1) := by decide +kernel
theorem dL_law_334 : decode cL_law 334 = .ok (.iaload, 1) := by decide +kernel
theorem dL_law_335 : decode cL_law 335 = .ok (.aload_n 0, 1) := by decide +kernel
theorem dL_law_336 : decode cL_law 336 = .ok (.iload_n 3, 1) := by decide +kernel
theorem dL_law_337 : decode cL_law 337 = .ok (.iconst 2, 1) := by decide +kernel
theorem dL_law_338 : decode cL_law 338 = .ok (.iadd, 1) := by decide +kernel
theorem dL_law_339 : decode cL_law 339 = .ok (.iaload, 1) := by decide +kernel
theorem dL_law_340 : decode cL_law 340 = .ok (.invokevirtual 47, 3) := by decide +kernel
theorem dL_law_343 : decode cL_law 343 = .ok (.if_icmp .eq 510, 3) := by decide +kernel
theorem dL_law_346 : decode cL_law 346 = .ok (.iconst 0, 1) := by decide +kernel
theorem dL_law_347 : decode cL_law 347 = .ok (.ireturn, 1) := by decide +kernel
theorem dL_law_348 : decode cL_law 348 = .ok (.aload_n 1, 1) := by decide +kernel
theorem dL_law_349 : decode cL_law 349 = .ok (.aload_n 0, 1) := by decide +kernel
theorem dL_law_350 : decode cL_law 350 = .ok (.iload_n 3, 1) := by decide +kernel
theorem dL_law_351 : decode cL_law 351 = .ok (.iconst 1, 1) := by decide +kernel
theorem dL_law_352 : decode cL_law 352 = .ok (.iadd, 1) := by decide +kernel
theorem dL_law_353 : decode cL_law 353 = .ok (.iaload, 1) := by decide +kernel
theorem dL_law_354 : decode cL_law 354 = .ok (.aload_n 0, 1) := by decide +kernel
theorem dL_law_355 : decode cL_law 355 = .ok (.iload_n 3, 1) := by decide +kernel
theorem dL_law_356 : decode cL_law 356 = .ok (.iconst 2, 1) := by decide +kernel
theorem dL_law_357 : decode cL_law 357 = .ok (.iadd, 1) := by decide +kernel
theorem dL_law_358 : decode cL_law 358 = .ok (.iaload, 1) := by decide +kernel
theorem dL_law_359 : decode cL_law 359 = .ok (.invokevirtual 48, 3) := by decide +kernel
theorem dL_law_362 : decode cL_law 362 = .ok (.aload_n 2, 1) := by decide +kernel
theorem dL_law_363 : decode cL_law 363 = .ok (.aload_n 0, 1) := by decide +kernel
theorem dL_law_364 : decode cL_law 364 = .ok (.iload_n 3, 1) := by decide +kernel
theorem dL_law_365 : decode cL_law 365 = .ok (.iconst 1, 1) := by decide +kernel
theorem dL_law_366 : decode cL_law 366 = .ok (.iadd, 1) := by decide +kernel
theorem dL_law_367 : decode cL_law 367 = .ok (.iaload, 1) := by decide +kernel
theorem dL_law_368 : decode cL_law 368 = .ok (.aload_n 0, 1) := by decide +kernel
theorem dL_law_369 : decode cL_law 369 = .ok (.iload_n 3, 1) := by decide +kernel
theorem dL_law_370 : decode cL_law 370 = .ok (.iconst 2, 1) := by decide +kernel
theorem dL_law_371 : decode cL_law 371 = .ok (.iadd, 1) := by decide +kernel
theorem dL_law_372 : decode cL_law 372 = .ok (.iaload, 1) := by decide +kernel
theorem dL_law_373 : decode cL_law 373 = .ok (.invokevirtual 51, 3) := by decide +kernel
theorem dL_law_376 : decode cL_law 376 = .ok (.if_icmp .eq 477, 3) := by decide +kernel
theorem dL_law_379 : decode cL_law 379 = .ok (.iconst 0, 1) := by decide +kernel
theorem dL_law_380 : decode cL_law 380 = .ok (.ireturn, 1) := by decide +kernel
theorem dL_law_381 : decode cL_law 381 = .ok (.aload_n 1, 1) := by decide +kernel
theorem dL_law_382 : decode cL_law 382 = .ok (.invokevirtual 52, 3) := by decide +kernel
theorem dL_law_385 : decode cL_law 385 = .ok (.aload_n 2, 1) := by decide +kernel
theorem dL_law_386 : decode cL_law 386 = .ok (.invokevirtual 55, 3) := by decide +kernel
theorem dL_law_389 : decode cL_law 389 = .ok (.if_icmp .eq 464, 3) := by decide +kernel
theorem dL_law_392 : decode cL_law 392 = .ok (.iconst 0, 1) := by decide +kernel
theorem dL_law_393 : decode cL_law 393 = .ok (.ireturn, 1) := by decide +kernel
theorem dL_law_394 : decode cL_law 394 = .ok (.aload_n 1, 1) := by decide +kernel
theorem dL_law_395 : decode cL_law 395 = .ok (.aload_n 0, 1) := by decide +kernel
theorem dL_law_396 : decode cL_law 396 = .ok (.iload_n 3, 1) := by decide +kernel
theorem dL_law_397 : decode cL_law 397 = .ok (.iconst 1, 1) := by decide +kernel
theorem dL_law_398 : decode cL_law 398 = .ok (.iadd, 1) := by decide +kernel
theorem dL_law_399 : decode cL_law 399 = .ok (.iaload, 1) := by decide +kernel
theorem dL_law_400 : decode cL_law 400 = .ok (.invokevirtual 56, 3) := by decide +kernel
theorem dL_law_403 : decode cL_law 403 = .ok (.aload_n 2, 1) := by decide +kernel
theorem dL_law_404 : decode cL_law 404 = .ok (.aload_n 0, 1) := by decide +kernel
theorem dL_law_405 : decode cL_law 405 = .ok (.iload_n 3, 1) := by decide +kernel
theorem dL_law_406 : decode cL_law 406 = .ok (.iconst 1, 1) := by decide +kernel
theorem dL_law_407 : decode cL_law 407 = .ok (.iadd, 1) := by decide +kernel
theorem dL_law_408 : decode cL_law 408 = .ok (.iaload, 1) := by decide +kernel
theorem dL_law_409 : decode cL_law 409 = .ok (.invokevirtual 59, 3) := by decide +kernel
theorem dL_law_412 : decode cL_law 412 = .ok (.if_icmp .eq 441, 3) := by decide +kernel
theorem dL_law_415 : decode cL_law 415 = .ok (.iconst 0, 1) := by decide +kernel
theorem dL_law_416 : decode cL_law 416 = .ok (.ireturn, 1) := by decide +kernel
theorem dL_law_417 : decode cL_law 417 = .ok (.aload_n 1, 1) := by decide +kernel
theorem dL_law_418 : decode cL_law 418 = .ok (.invokevirtual 60, 3) := by decide +kernel
theorem dL_law_421 : decode cL_law 421 = .ok (.aload_n 2, 1) := by decide +kernel
theorem dL_law_422 : decode cL_law 422 = .ok (.invokevirtual 63, 3) := by decide +kernel
theorem dL_law_425 : decode cL_law 425 = .ok (.if_icmp .eq 428, 3) := by decide +kernel
theorem dL_law_428 : decode cL_law 428 = .ok (.iconst 0, 1) := by decide +kernel
theorem dL_law_429 : decode cL_law 429 = .ok (.ireturn, 1) := by decide +kernel
theorem dL_law_430 : decode cL_law 430 = .ok (.aload_n 1, 1) := by decide +kernel
theorem dL_law_431 : decode cL_law 431 = .ok (.aload_n 0, 1) := by decide +kernel
theorem dL_law_432 : decode cL_law 432 = .ok (.iload_n 3, 1) := by decide +kernel
theorem dL_law_433 : decode cL_law 433 = .ok (.iconst 1, 1) := by decide +kernel
theorem dL_law_434 : decode cL_law 434 = .ok (.iadd, 1) := by decide +kernel
theorem dL_law_435 : decode cL_law 435 = .ok (.iaload, 1) := by decide +kernel
theorem dL_law_436 : decode cL_law 436 = .ok (.invokevirtual 64, 3) := by decide +kernel
theorem dL_law_439 : decode cL_law 439 = .ok (.aload_n 2, 1) := by decide +kernel
theorem dL_law_440 : decode cL_law 440 = .ok (.aload_n 0, 1) := by decide +kernel
theorem dL_law_441 : decode cL_law 441 = .ok (.iload_n 3, 1) := by decide +kernel
theorem dL_law_442 : decode cL_law 442 = .ok (.iconst 1, 1) := by decide +kernel
theorem dL_law_443 : decode cL_law 443 = .ok (.iadd, 1) := by decide +kernel
theorem dL_law_444 : decode cL_law 444 = .ok (.iaload, 1) := by decide +kernel
theorem dL_law_445 : decode cL_law 445 = .ok (.invokevirtual 67, 3) := by decide +kernel
theorem dL_law_448 : decode cL_law 448 = .ok (.if_icmp .eq 405, 3) := by decide +kernel
theorem dL_law_451 : decode cL_law 451 = .ok (.iconst 0, 1) := by decide +kernel
theorem dL_law_452 : decode cL_law 452 = .ok (.ireturn, 1) := by decide +kernel
theorem dL_law_453 : decode cL_law 453 = .ok (.aload_n 1, 1) := by decide +kernel
theorem dL_law_454 : decode cL_law 454 = .ok (.aload_n 0, 1) := by decide +kernel
theorem dL_law_455 : decode cL_law 455 = .ok (.iload_n 3, 1) := by decide +kernel
theorem dL_law_456 : decode cL_law 456 = .ok (.iconst 1, 1) := by decide +kernel
theorem dL_law_457 : decode cL_law 457 = .ok (.iadd, 1) := by decide +kernel
theorem dL_law_458 : decode cL_law 458 = .ok (.iaload, 1) := by decide +kernel
theorem dL_law_459 : decode cL_law 459 = .ok (.invokevirtual 68, 3) := by decide +kernel
theorem dL_law_462 : decode cL_law 462 = .ok (.aload_n 2, 1) := by decide +kernel
theorem dL_law_463 : decode cL_law 463 = .ok (.aload_n 0, 1) := by decide +kernel
theorem dL_law_464 : decode cL_law 464 = .ok (.iload_n 3, 1) := by decide +kernel
theorem dL_law_465 : decode cL_law 465 = .ok (.iconst 1, 1) := by decide +kernel
theorem dL_law_466 : decode cL_law 466 = .ok (.iadd, 1) := by decide +kernel
theorem dL_law_467 : decode cL_law 467 = .ok (.iaload, 1) := by decide +kernel
theorem dL_law_468 : decode cL_law 468 = .ok (.invokevirtual 71, 3) := by decide +kernel
theorem dL_law_471 : decode cL_law 471 = .ok (.if_icmp .eq 382, 3) := by decide +kernel
theorem dL_law_474 : decode cL_law 474 = .ok (.iconst 0, 1) := by decide +kernel
theorem dL_law_475 : decode cL_law 475 = .ok (.ireturn, 1) := by decide +kernel
theorem dL_law_476 : decode cL_law 476 = .ok (.aload_n 1, 1) := by decide +kernel
theorem dL_law_477 : decode cL_law 477 = .ok (.aload_n 0, 1) := by decide +kernel
theorem dL_law_478 : decode cL_law 478 = .ok (.iload_n 3, 1) := by decide +kernel
theorem dL_law_479 : decode cL_law 479 = .ok (.iconst 1, 1) := by decide +kernel
theorem dL_law_480 : decode cL_law 480 = .ok (.iadd, 1) := by decide +kernel
theorem dL_law_481 : decode cL_law 481 = .ok (.iaload, 1) := by decide +kernel
theorem dL_law_482 : decode cL_law 482 = .ok (.invokevirtual 72, 3) := by decide +kernel
theorem dL_law_485 : decode cL_law 485 = .ok (.aload_n 2, 1) := by decide +kernel
theorem dL_law_486 : decode cL_law 486 = .ok (.aload_n 0, 1) := by decide +kernel
theorem dL_law_487 : decode cL_law 487 = .ok (.iload_n 3, 1) := by decide +kernel
theorem dL_law_488 : decode cL_law 488 = .ok (.iconst 1, 1) := by decide +kernel
theorem dL_law_489 : decode cL_law 489 = .ok (.iadd, 1) := by decide +kernel
theorem dL_law_490 : decode cL_law 490 = .ok (.iaload, 1) := by decide +kernel
theorem dL_law_491 : decode cL_law 491 = .ok (.invokevirtual 75, 3) := by decide +kernel
theorem dL_law_494 : decode cL_law 494 = .ok (.if_icmp .eq 359, 3) := by decide +kernel
theorem dL_law_497 : decode cL_law 497 = .ok (.iconst 0, 1) := by decide +kernel
theorem dL_law_498 : decode cL_law 498 = .ok (.ireturn, 1) := by decide +kernel
theorem dL_law_499 : decode cL_law 499 = .ok (.aload_n 1, 1) := by decide +kernel
theorem dL_law_500 : decode cL_law 500 = .ok (.invokevirtual 76, 3) := by decide +kernel
theorem dL_law_503 : decode cL_law 503 = .ok (.aload_n 2, 1) := by decide +kernel
theorem dL_law_504 : decode cL_law 504 = .ok (.invokevirtual 79, 3) := by decide +kernel
theorem dL_law_507 : decode cL_law 507 = .ok (.if_icmp .eq 346, 3) := by decide +kernel
theorem dL_law_510 : decode cL_law 510 = .ok (.iconst 0, 1) := by decide +kernel
theorem dL_law_511 : decode cL_law 511 = .ok (.ireturn, 1) := by decide +kernel
theorem dL_law_512 : decode cL_law 512 = .ok (.aload_n 1, 1) := by decide +kernel
theorem dL_law_513 : decode cL_law 513 = .ok (.aload_n 0, 1) := by decide +kernel
theorem dL_law_514 : decode cL_law 514 = .ok (.iload_n 3, 1) := by decide +kernel
theorem dL_law_515 : decode cL_law 515 = .ok (.iconst 1, 1) := by decide +kernel
theorem dL_law_516 : decode cL_law 516 = .ok (.iadd, 1) := by decide +kernel
theorem dL_law_517 : decode cL_law 517 = .ok (.iaload, 1) := by decide +kernel
theorem dL_law_518 : decode cL_law 518 = .ok (.invokevirtual 80, 3) := by decide +kernel
theorem dL_law_521 : decode cL_law 521 = .ok (.aload_n 2, 1) := by decide +kernel
theorem dL_law_522 : decode cL_law 522 = .ok (.aload_n 0, 1) := by decide +kernel
theorem dL_law_523 : decode cL_law 523 = .ok (.iload_n 3, 1) := by decide +kernel
theorem dL_law_524 : decode cL_law 524 = .ok (.iconst 1, 1) := by decide +kernel
theorem dL_law_525 : decode cL_law 525 = .ok (.iadd, 1) := by decide +kernel
theorem dL_law_526 : decode cL_law 526 = .ok (.iaload, 1) := by decide +kernel
theorem dL_law_527 : decode cL_law 527 = .ok (.invokevirtual 83, 3) := by decide +kernel
theorem dL_law_530 : decode cL_law 530 = .ok (.if_icmp .eq 323, 3) := by decide +kernel
theorem dL_law_533 : decode cL_law 533 = .ok (.iconst 0, 1) := by decide +kernel
theorem dL_law_534 : decode cL_law 534 = .ok (.ireturn, 1) := by decide +kernel
theorem dL_law_535 : decode cL_law 535 = .ok (.aload_n 1, 1) := by decide +kernel
theorem dL_law_536 : decode cL_law 536 = .ok (.aload_n 0, 1) := by decide +kernel
theorem dL_law_537 : decode cL_law 537 = .ok (.iload_n 3, 1) := by decide +kernel
theorem dL_law_538 : decode cL_law 538 = .ok (.iconst 1, 1) := by decide +kernel
theorem dL_law_539 : decode cL_law 539 = .ok (.iadd, 1) := by decide +kernel
theorem dL_law_540 : decode cL_law 540 = .ok (.iaload, 1) := by decide +kernel
theorem dL_law_541 : decode cL_law 541 = .ok (.aload_n 0, 1) := by decide +kernel
theorem dL_law_542 : decode cL_law 542 = .ok (.iload_n 3, 1) := by decide +kernel
theorem dL_law_543 : decode cL_law 543 = .ok (.iconst 2, 1) := by decide +kernel
theorem dL_law_544 : decode cL_law 544 = .ok (.iadd, 1) := by decide +kernel
theorem dL_law_545 : decode cL_law 545 = .ok (.iaload, 1) := by decide +kernel
theorem dL_law_546 : decode cL_law 546 = .ok (.invokevirtual 84, 3) := by decide +kernel
theorem dL_law_549 : decode cL_law 549 = .ok (.aload_n 2, 1) := by decide +kernel
theorem dL_law_550 : decode cL_law 550 = .ok (.aload_n 0, 1) := by decide +kernel
theorem dL_law_551 : decode cL_law 551 = .ok (.iload_n 3, 1) := by decide +kernel
theorem dL_law_552 : decode cL_law 552 = .ok (.iconst 1, 1) := by decide +kernel
theorem dL_law_553 : decode cL_law 553 = .ok (.iadd, 1) := by decide +kernel
theorem dL_law_554 : decode cL_law 554 = .ok (.iaload, 1) := by decide +kernel
theorem dL_law_555 : decode cL_law 555 = .ok (.aload_n 0, 1) := by decide +kernel
theorem dL_law_556 : decode cL_law 556 = .ok (.iload_n 3, 1) := by decide +kernel
theorem dL_law_557 : decode cL_law 557 = .ok (.iconst 2, 1) := by decide +kernel
theorem dL_law_558 : decode cL_law 558 = .ok (.iadd, 1) := by decide +kernel
theorem dL_law_559 : decode cL_law 559 = .ok (.iaload, 1) := by decide +kernel
theorem dL_law_560 : decode cL_law 560 = .ok (.invokevirtual 87, 3) := by decide +kernel
theorem dL_law_563 : decode cL_law 563 = .ok (.if_icmp .eq 290, 3) := by decide +kernel
theorem dL_law_566 : decode cL_law 566 = .ok (.iconst 0, 1) := by decide +kernel
theorem dL_law_567 : decode cL_law 567 = .ok (.ireturn, 1) := by decide +kernel
theorem dL_law_568 : decode cL_law 568 = .ok (.aload_n 1, 1) := by decide +kernel
theorem dL_law_569 : decode cL_law 569 = .ok (.aload_n 0, 1) := by decide +kernel
theorem dL_law_570 : decode cL_law 570 = .ok (.iload_n 3, 1) := by decide +kernel
theorem dL_law_571 : decode cL_law 571 = .ok (.iconst 1, 1) := by decide +kernel
theorem dL_law_572 : decode cL_law 572 = .ok (.iadd, 1) := by decide +kernel
theorem dL_law_573 : decode cL_law 573 = .ok (.iaload, 1) := by decide +kernel
theorem dL_law_574 : decode cL_law 574 = .ok (.invokevirtual 88, 3) := by decide +kernel
theorem dL_law_577 : decode cL_law 577 = .ok (.aload_n 2, 1) := by decide +kernel
theorem dL_law_578 : decode cL_law 578 = .ok (.aload_n 0, 1) := by decide +kernel
theorem dL_law_579 : decode cL_law 579 = .ok (.iload_n 3, 1) := by decide +kernel
theorem dL_law_580 : decode cL_law 580 = .ok (.iconst 1, 1) := by decide +kernel
theorem dL_law_581 : decode cL_law 581 = .ok (.iadd, 1) := by decide +kernel
theorem dL_law_582 : decode cL_law 582 = .ok (.iaload, 1) := by decide +kernel
theorem dL_law_583 : decode cL_law 583 = .ok (.invokevirtual 91, 3) := by decide +kernel
theorem dL_law_586 : decode cL_law 586 = .ok (.if_icmp .eq 267, 3) := by decide +kernel
theorem dL_law_589 : decode cL_law 589 = .ok (.iconst 0, 1) := by decide +kernel
theorem dL_law_590 : decode cL_law 590 = .ok (.ireturn, 1) := by decide +kernel
theorem dL_law_591 : decode cL_law 591 = .ok (.aload_n 1, 1) := by decide +kernel
theorem dL_law_592 : decode cL_law 592 = .ok (.aload_n 0, 1) := by decide +kernel
theorem dL_law_593 : decode cL_law 593 = .ok (.iload_n 3, 1) := by decide +kernel
theorem dL_law_594 : decode cL_law 594 = .ok (.iconst 1, 1) := by decide +kernel
theorem dL_law_595 : decode cL_law 595 = .ok (.iadd, 1) := by decide +kernel
theorem dL_law_596 : decode cL_law 596 = .ok (.iaload, 1) := by decide +kernel
theorem dL_law_597 : decode cL_law 597 = .ok (.aload_n 0, 1) := by decide +kernel
theorem dL_law_598 : decode cL_law 598 = .ok (.iload_n 3, 1) := by decide +kernel
theorem dL_law_599 : decode cL_law 599 = .ok (.iconst 2, 1) := by decide +kernel
theorem dL_law_600 : decode cL_law 600 = .ok (.iadd, 1) := by decide +kernel
theorem dL_law_601 : decode cL_law 601 = .ok (.iaload, 1) := by decide +kernel
theorem dL_law_602 : decode cL_law 602 = .ok (.invokevirtual 92, 3) := by decide +kernel
theorem dL_law_605 : decode cL_law 605 = .ok (.aload_n 2, 1) := by decide +kernel
theorem dL_law_606 : decode cL_law 606 = .ok (.aload_n 0, 1) := by decide +kernel
theorem dL_law_607 : decode cL_law 607 = .ok (.iload_n 3, 1) := by decide +kernel
theorem dL_law_608 : decode cL_law 608 = .ok (.iconst 1, 1) := by decide +kernel
theorem dL_law_609 : decode cL_law 609 = .ok (.iadd, 1) := by decide +kernel
theorem dL_law_610 : decode cL_law 610 = .ok (.iaload, 1) := by decide +kernel
theorem dL_law_611 : decode cL_law 611 = .ok (.aload_n 0, 1) := by decide +kernel
theorem dL_law_612 : decode cL_law 612 = .ok (.iload_n 3, 1) := by decide +kernel
theorem dL_law_613 : decode cL_law 613 = .ok (.iconst 2, 1) := by decide +kernel
theorem dL_law_614 : decode cL_law 614 = .ok (.iadd, 1) := by decide +kernel
theorem dL_law_615 : decode cL_law 615 = .ok (.iaload, 1) := by decide +kernel
theorem dL_law_616 : decode cL_law 616 = .ok (.invokevirtual 95, 3) := by decide +kernel
theorem dL_law_619 : decode cL_law 619 = .ok (.if_icmp .eq 234, 3) := by decide +kernel
theorem dL_law_622 : decode cL_law 622 = .ok (.iconst 0, 1) := by decide +kernel
theorem dL_law_623 : decode cL_law 623 = .ok (.ireturn, 1) := by decide +kernel
theorem dL_law_624 : decode cL_law 624 = .ok (.aload_n 1, 1) := by decide +kernel
theorem dL_law_625 : decode cL_law 625 = .ok (.invokevirtual 96, 3) := by decide +kernel
theorem dL_law_628 : decode cL_law 628 = .ok (.aload_n 2, 1) := by decide +kernel
theorem dL_law_629 : decode cL_law 629 = .ok (.invokevirtual 99, 3) := by decide +kernel
theorem dL_law_632 : decode cL_law 632 = .ok (.if_icmp .eq 221, 3) := by decide +kernel
theorem dL_law_635 : decode cL_law 635 = .ok (.iconst 0, 1) := by decide +kernel
theorem dL_law_636 : decode cL_law 636 = .ok (.ireturn, 1) := by decide +kernel
theorem dL_law_637 : decode cL_law 637 = .ok (.aload_n 1, 1) := by decide +kernel
theorem dL_law_638 : decode cL_law 638 = .ok (.aload_n 0, 1) := by decide +kernel
theorem dL_law_639 : decode cL_law 639 = .ok (.iload_n 3, 1) := by decide +kernel
theorem dL_law_640 : decode cL_law 640 = .ok (.iconst 1, 1) := by decide +kernel
theorem dL_law_641 : decode cL_law 641 = .ok (.iadd, 1) := by decide +kernel
theorem dL_law_642 : decode cL_law 642 = .ok (.iaload, 1) := by decide +kernel
theorem dL_law_643 : decode cL_law 643 = .ok (.invokevirtual 100, 3) := by decide +kernel
theorem dL_law_646 : decode cL_law 646 = .ok (.aload_n 2, 1) := by decide +kernel
theorem dL_law_647 : decode cL_law 647 = .ok (.aload_n 0, 1) := by decide +kernel
theorem dL_law_648 : decode cL_law 648 = .ok (.iload_n 3, 1) := by decide +kernel
theorem dL_law_649 : decode cL_law 649 = .ok (.iconst 1, 1) := by decide +kernel
theorem dL_law_650 : decode cL_law 650 = .ok (.iadd, 1) := by decide +kernel
theorem dL_law_651 : decode cL_law 651 = .ok (.iaload, 1) := by decide +kernel
theorem dL_law_652 : decode cL_law 652 = .ok (.invokevirtual 103, 3) := by decide +kernel
theorem dL_law_655 : decode cL_law 655 = .ok (.if_icmp .eq 198, 3) := by decide +kernel
theorem dL_law_658 : decode cL_law 658 = .ok (.iconst 0, 1) := by decide +kernel
theorem dL_law_659 : decode cL_law 659 = .ok (.ireturn, 1) := by decide +kernel
theorem dL_law_660 : decode cL_law 660 = .ok (.aload_n 1, 1) := by decide +kernel
theorem dL_law_661 : decode cL_law 661 = .ok (.aload_n 0, 1) := by decide +kernel
theorem dL_law_662 : decode cL_law 662 = .ok (.iload_n 3, 1) := by decide +kernel
theorem dL_law_663 : decode cL_law 663 = .ok (.iconst 1, 1) := by decide +kernel
theorem dL_law_664 : decode cL_law 664 = .ok (.iadd, 1) := by decide +kernel
theorem dL_law_665 : decode cL_law 665 = .ok (.iaload, 1) := by decide +kernel
theorem dL_law_666 : decode cL_law 666 = .ok (.aload_n 0, 1) := by decide +kernel
theorem dL_law_667 : decode cL_law 667 = .ok (.iload_n 3, 1) := by decide +kernel
theorem dL_law_668 : decode cL_law 668 = .ok (.iconst 2, 1) := by decide +kernel
theorem dL_law_669 : decode cL_law 669 = .ok (.iadd, 1) := by decide +kernel
theorem dL_law_670 : decode cL_law 670 = .ok (.iaload, 1) := by decide +kernel
theorem dL_law_671 : decode cL_law 671 = .ok (.invokevirtual 104, 3) := by decide +kernel
theorem dL_law_674 : decode cL_law 674 = .ok (.aload_n 2, 1) := by decide +kernel
theorem dL_law_675 : decode cL_law 675 = .ok (.aload_n 0, 1) := by decide +kernel
theorem dL_law_676 : decode cL_law 676 = .ok (.iload_n 3, 1) := by decide +kernel
theorem dL_law_677 : decode cL_law 677 = .ok (.iconst 1, 1) := by decide +kernel
theorem dL_law_678 : decode cL_law 678 = .ok (.iadd, 1) := by decide +kernel
theorem dL_law_679 : decode cL_law 679 = .ok (.iaload, 1) := by decide +kernel
theorem dL_law_680 : decode cL_law 680 = .ok (.aload_n 0, 1) := by decide +kernel
theorem dL_law_681 : decode cL_law 681 = .ok (.iload_n 3, 1) := by decide +kernel
theorem dL_law_682 : decode cL_law 682 = .ok (.iconst 2, 1) := by decide +kernel
theorem dL_law_683 : decode cL_law 683 = .ok (.iadd, 1) := by decide +kernel
theorem dL_law_684 : decode cL_law 684 = .ok (.iaload, 1) := by decide +kernel
theorem dL_law_685 : decode cL_law 685 = .ok (.invokevirtual 107, 3) := by decide +kernel
theorem dL_law_688 : decode cL_law 688 = .ok (.if_icmp .eq 165, 3) := by decide +kernel
theorem dL_law_691 : decode cL_law 691 = .ok (.iconst 0, 1) := by decide +kernel
theorem dL_law_692 : decode cL_law 692 = .ok (.ireturn, 1) := by decide +kernel
theorem dL_law_693 : decode cL_law 693 = .ok (.aload_n 1, 1) := by decide +kernel
theorem dL_law_694 : decode cL_law 694 = .ok (.aload_n 0, 1) := by decide +kernel
theorem dL_law_695 : decode cL_law 695 = .ok (.iload_n 3, 1) := by decide +kernel
theorem dL_law_696 : decode cL_law 696 = .ok (.iconst 1, 1) := by decide +kernel
theorem dL_law_697 : decode cL_law 697 = .ok (.iadd, 1) := by decide +kernel
theorem dL_law_698 : decode cL_law 698 = .ok (.iaload, 1) := by decide +kernel
theorem dL_law_699 : decode cL_law 699 = .ok (.aload_n 0, 1) := by decide +kernel
theorem dL_law_700 : decode cL_law 700 = .ok (.iload_n 3, 1) := by decide +kernel
theorem dL_law_701 : decode cL_law 701 = .ok (.iconst 2, 1) := by decide +kernel
theorem dL_law_702 : decode cL_law 702 = .ok (.iadd, 1) := by decide +kernel
theorem dL_law_703 : decode cL_law 703 = .ok (.iaload, 1) := by decide +kernel
theorem dL_law_704 : decode cL_law 704 = .ok (.aload_n 0, 1) := by decide +kernel
theorem dL_law_705 : decode cL_law 705 = .ok (.iload_n 3, 1) := by decide +kernel
theorem dL_law_706 : decode cL_law 706 = .ok (.iconst 3, 1) := by decide +kernel
theorem dL_law_707 : decode cL_law 707 = .ok (.iadd, 1) := by decide +kernel
theorem dL_law_708 : decode cL_law 708 = .ok (.iaload, 1) := by decide +kernel
theorem dL_law_709 : decode cL_law 709 = .ok (.invokevirtual 108, 3) := by decide +kernel
theorem dL_law_712 : decode cL_law 712 = .ok (.aload_n 2, 1) := by decide +kernel
theorem dL_law_713 : decode cL_law 713 = .ok (.aload_n 0, 1) := by decide +kernel
theorem dL_law_714 : decode cL_law 714 = .ok (.iload_n 3, 1) := by decide +kernel
theorem dL_law_715 : decode cL_law 715 = .ok (.iconst 1, 1) := by decide +kernel
theorem dL_law_716 : decode cL_law 716 = .ok (.iadd, 1) := by decide +kernel
theorem dL_law_717 : decode cL_law 717 = .ok (.iaload, 1) := by decide +kernel
theorem dL_law_718 : decode cL_law 718 = .ok (.aload_n 0, 1) := by decide +kernel
theorem dL_law_719 : decode cL_law 719 = .ok (.iload_n 3, 1) := by decide +kernel
theorem dL_law_720 : decode cL_law 720 = .ok (.iconst 2, 1) := by decide +kernel
theorem dL_law_721 : decode cL_law 721 = .ok (.iadd, 1) := by decide +kernel
theorem dL_law_722 : decode cL_law 722 = .ok (.iaload, 1) := by decide +kernel
theorem dL_law_723 : decode cL_law 723 = .ok (.aload_n 0, 1) := by decide +kernel
theorem dL_law_724 : decode cL_law 724 = .ok (.iload_n 3, 1) := by decide +kernel
theorem dL_law_725 : decode cL_law 725 = .ok (.iconst 3, 1) := by decide +kernel
theorem dL_law_726 : decode cL_law 726 = .ok (.iadd, 1) := by decide +kernel
theorem dL_law_727 : decode cL_law 727 = .ok (.iaload, 1) := by decide +kernel
theorem dL_law_728 : decode cL_law 728 = .ok (.invokevirtual 112, 3) := by decide +kernel
theorem dL_law_731 : decode cL_law 731 = .ok (.lcmp, 1) := by decide +kernel
theorem dL_law_732 : decode cL_law 732 = .ok (.ifCond .eq 121, 3) := by decide +kernel
theorem dL_law_735 : decode cL_law 735 = .ok (.iconst 0, 1) := by decide +kernel
theorem dL_law_736 : decode cL_law 736 = .ok (.ireturn, 1) := by decide +kernel
theorem dL_law_737 : decode cL_law 737 = .ok (.aload_n 1, 1) := by decide +kernel
theorem dL_law_738 : decode cL_law 738 = .ok (.aload_n 0, 1) := by decide +kernel
theorem dL_law_739 : decode cL_law 739 = .ok (.iload_n 3, 1) := by decide +kernel
theorem dL_law_740 : decode cL_law 740 = .ok (.iconst 1, 1) := by decide +kernel
theorem dL_law_741 : decode cL_law 741 = .ok (.iadd, 1) := by decide +kernel
theorem dL_law_742 : decode cL_law 742 = .ok (.iaload, 1) := by decide +kernel
theorem dL_law_743 : decode cL_law 743 = .ok (.aload_n 0, 1) := by decide +kernel
theorem dL_law_744 : decode cL_law 744 = .ok (.iload_n 3, 1) := by decide +kernel
theorem dL_law_745 : decode cL_law 745 = .ok (.iconst 2, 1) := by decide +kernel
theorem dL_law_746 : decode cL_law 746 = .ok (.iadd, 1) := by decide +kernel
theorem dL_law_747 : decode cL_law 747 = .ok (.iaload, 1) := by decide +kernel
theorem dL_law_748 : decode cL_law 748 = .ok (.invokevirtual 113, 3) := by decide +kernel
theorem dL_law_751 : decode cL_law 751 = .ok (.aload_n 2, 1) := by decide +kernel
theorem dL_law_752 : decode cL_law 752 = .ok (.aload_n 0, 1) := by decide +kernel
theorem dL_law_753 : decode cL_law 753 = .ok (.iload_n 3, 1) := by decide +kernel
theorem dL_law_754 : decode cL_law 754 = .ok (.iconst 1, 1) := by decide +kernel
theorem dL_law_755 : decode cL_law 755 = .ok (.iadd, 1) := by decide +kernel
theorem dL_law_756 : decode cL_law 756 = .ok (.iaload, 1) := by decide +kernel
theorem dL_law_757 : decode cL_law 757 = .ok (.aload_n 0, 1) := by decide +kernel
theorem dL_law_758 : decode cL_law 758 = .ok (.iload_n 3, 1) := by decide +kernel
theorem dL_law_759 : decode cL_law 759 = .ok (.iconst 2, 1) := by decide +kernel
theorem dL_law_760 : decode cL_law 760 = .ok (.iadd, 1) := by decide +kernel
theorem dL_law_761 : decode cL_law 761 = .ok (.iaload, 1) := by decide +kernel
theorem dL_law_762 : decode cL_law 762 = .ok (.invokevirtual 116, 3) := by decide +kernel
theorem dL_law_765 : decode cL_law 765 = .ok (.if_icmp .eq 88, 3) := by decide +kernel
theorem dL_law_768 : decode cL_law 768 = .ok (.iconst 0, 1) := by decide +kernel
theorem dL_law_769 : decode cL_law 769 = .ok (.ireturn, 1) := by decide +kernel
theorem dL_law_770 : decode cL_law 770 = .ok (.aload_n 1, 1) := by decide +kernel
theorem dL_law_771 : decode cL_law 771 = .ok (.aload_n 0, 1) := by decide +kernel
theorem dL_law_772 : decode cL_law 772 = .ok (.iload_n 3, 1) := by decide +kernel
theorem dL_law_773 : decode cL_law 773 = .ok (.iconst 1, 1) := by decide +kernel
theorem dL_law_774 : decode cL_law 774 = .ok (.iadd, 1) := by decide +kernel
theorem dL_law_775 : decode cL_law 775 = .ok (.iaload, 1) := by decide +kernel
theorem dL_law_776 : decode cL_law 776 = .ok (.invokevirtual 117, 3) := by decide +kernel
theorem dL_law_779 : decode cL_law 779 = .ok (.aload_n 2, 1) := by decide +kernel
theorem dL_law_780 : decode cL_law 780 = .ok (.aload_n 0, 1) := by decide +kernel
theorem dL_law_781 : decode cL_law 781 = .ok (.iload_n 3, 1) := by decide +kernel
theorem dL_law_782 : decode cL_law 782 = .ok (.iconst 1, 1) := by decide +kernel
theorem dL_law_783 : decode cL_law 783 = .ok (.iadd, 1) := by decide +kernel
theorem dL_law_784 : decode cL_law 784 = .ok (.iaload, 1) := by decide +kernel
theorem dL_law_785 : decode cL_law 785 = .ok (.invokevirtual 120, 3) := by decide +kernel
theorem dL_law_788 : decode cL_law 788 = .ok (.if_icmp .eq 65, 3) := by decide +kernel
theorem dL_law_791 : decode cL_law 791 = .ok (.iconst 0, 1) := by decide +kernel
theorem dL_law_792 : decode cL_law 792 = .ok (.ireturn, 1) := by decide +kernel
theorem dL_law_793 : decode cL_law 793 = .ok (.aload_n 1, 1) := by decide +kernel
theorem dL_law_794 : decode cL_law 794 = .ok (.aload_n 0, 1) := by decide +kernel
theorem dL_law_795 : decode cL_law 795 = .ok (.iload_n 3, 1) := by decide +kernel
theorem dL_law_796 : decode cL_law 796 = .ok (.iconst 1, 1) := by decide +kernel
theorem dL_law_797 : decode cL_law 797 = .ok (.iadd, 1) := by decide +kernel
theorem dL_law_798 : decode cL_law 798 = .ok (.iaload, 1) := by decide +kernel
theorem dL_law_799 : decode cL_law 799 = .ok (.invokevirtual 121, 3) := by decide +kernel
theorem dL_law_802 : decode cL_law 802 = .ok (.aload_n 2, 1) := by decide +kernel
theorem dL_law_803 : decode cL_law 803 = .ok (.aload_n 0, 1) := by decide +kernel
theorem dL_law_804 : decode cL_law 804 = .ok (.iload_n 3, 1) := by decide +kernel
theorem dL_law_805 : decode cL_law 805 = .ok (.iconst 1, 1) := by decide +kernel
theorem dL_law_806 : decode cL_law 806 = .ok (.iadd, 1) := by decide +kernel
theorem dL_law_807 : decode cL_law 807 = .ok (.iaload, 1) := by decide +kernel
theorem dL_law_808 : decode cL_law 808 = .ok (.invokevirtual 124, 3) := by decide +kernel
theorem dL_law_811 : decode cL_law 811 = .ok (.if_icmp .eq 42, 3) := by decide +kernel
theorem dL_law_814 : decode cL_law 814 = .ok (.iconst 0, 1) := by decide +kernel
theorem dL_law_815 : decode cL_law 815 = .ok (.ireturn, 1) := by decide +kernel
theorem dL_law_816 : decode cL_law 816 = .ok (.aload_n 1, 1) := by decide +kernel
theorem dL_law_817 : decode cL_law 817 = .ok (.aload_n 0, 1) := by decide +kernel
theorem dL_law_818 : decode cL_law 818 = .ok (.iload_n 3, 1) := by decide +kernel
theorem dL_law_819 : decode cL_law 819 = .ok (.iconst 1, 1) := by decide +kernel
theorem dL_law_820 : decode cL_law 820 = .ok (.iadd, 1) := by decide +kernel
theorem dL_law_821 : decode cL_law 821 = .ok (.iaload, 1) := by decide +kernel
theorem dL_law_822 : decode cL_law 822 = .ok (.invokevirtual 125, 3) := by decide +kernel
theorem dL_law_825 : decode cL_law 825 = .ok (.aload_n 2, 1) := by decide +kernel
theorem dL_law_826 : decode cL_law 826 = .ok (.aload_n 0, 1) := by decide +kernel
theorem dL_law_827 : decode cL_law 827 = .ok (.iload_n 3, 1) := by decide +kernel
theorem dL_law_828 : decode cL_law 828 = .ok (.iconst 1, 1) := by decide +kernel
theorem dL_law_829 : decode cL_law 829 = .ok (.iadd, 1) := by decide +kernel
theorem dL_law_830 : decode cL_law 830 = .ok (.iaload, 1) := by decide +kernel
theorem dL_law_831 : decode cL_law 831 = .ok (.invokevirtual 128, 3) := by decide +kernel
theorem dL_law_834 : decode cL_law 834 = .ok (.if_icmp .eq 19, 3) := by decide +kernel
theorem dL_law_837 : decode cL_law 837 = .ok (.iconst 0, 1) := by decide +kernel
theorem dL_law_838 : decode cL_law 838 = .ok (.ireturn, 1) := by decide +kernel
theorem dL_law_839 : decode cL_law 839 = .ok (.aload_n 1, 1) := by decide +kernel
theorem dL_law_840 : decode cL_law 840 = .ok (.invokevirtual 129, 3) := by decide +kernel
theorem dL_law_843 : decode cL_law 843 = .ok (.aload_n 2, 1) := by decide +kernel
theorem dL_law_844 : decode cL_law 844 = .ok (.invokevirtual 133, 3) := by decide +kernel
theorem dL_law_847 : decode cL_law 847 = .ok (.lcmp, 1) := by decide +kernel
theorem dL_law_848 : decode cL_law 848 = .ok (.ifCond .eq 5, 3) := by decide +kernel
theorem dL_law_851 : decode cL_law 851 = .ok (.iconst 0, 1) := by decide +kernel
theorem dL_law_852 : decode cL_law 852 = .ok (.ireturn, 1) := by decide +kernel
theorem dL_law_853 : decode cL_law 853 = .ok (.iinc 3 4, 3) := by decide +kernel
theorem dL_law_856 : decode cL_law 856 = .ok (.goto (-838), 3) := by decide +kernel
theorem dL_law_859 : decode cL_law 859 = .ok (.iconst 1, 1) := by decide +kernel
theorem dL_law_860 : decode cL_law 860 = .ok (.ireturn, 1) := by decide +kernel
end
section
/-! Z: the judgement of these walks. A state of a walk is (world, locals, operand stack, pc), all plain data; Z says that the machine comes from there to its end. -/
def lwA : List Cond := lw_tbl.filter goodWord
theorem lwA_tbl {w : Cond} (h : w ∈ lwA) : w ∈ lw_tbl := (List.mem_filter.mp h).1
theorem lwA_mem {w : Cond} (h : w ∈ lw_tbl) (hg : goodWord w = true) : w ∈ lwA := List.mem_filter.mpr ⟨h, hg⟩
theorem lwA_in {w : Cond} (h : w ∈ lwA) : GoodIn lwA (w :: lwA) := fun x hx =>
  have hx : x ∈ lwA := (List.mem_cons.mp hx).elim (fun e => e ▸ h) id
  ⟨hx, good_of_word (List.mem_filter.mp hx).2⟩
theorem tb1 {w : Cond} (h : w ∈ tables_1) : w ∈ lw_tbl := List.mem_append_right _ h
theorem tb_1 {w : Cond} (h : w ∈ tables_1_1) : w ∈ lw_tbl := tb1 (List.mem_append_left _ h)
theorem tb_2 {w : Cond} (h : w ∈ tables_1_2) : w ∈ lw_tbl := tb1 (List.mem_append_right _ (List.mem_append_left _ h))
theorem tb_3 {w : Cond} (h : w ∈ tables_1_3) : w ∈ lw_tbl := tb1 (List.mem_append_right _ (List.mem_append_right _ (List.mem_append_left _ h)))
theorem tb_4 {w : Cond} (h : w ∈ tables_1_4) : w ∈ lw_tbl := tb1 (List.mem_append_right _ (List.mem_append_right _ (List.mem_append_right _ (List.mem_append_left _ h))))
theorem tb_5 {w : Cond} (h : w ∈ tables_1_5) : w ∈ lw_tbl := tb1 (List.mem_append_right _ (List.mem_append_right _ (List.mem_append_right _ (List.mem_append_right _ h))))
/-- launch, the classes' numbers and slots, the array classes -/
abbrev GC : Type := Launch × va_G × (Nat → ClassId)
/-- the frame of a walk -/
abbrev XC : Type := Program × Env × Room × State × MethodId × Array Value × List Frame × Method × Code × (Nat → Prop) × (State → Prop)
def zCl : List vw_C := [(RX0, TX0, 4), (RX1, TX1, 3), (RX2, TX2, 6), (RX3, TX3, 9), (RX4, TX4, 10), (RX5, TX5, 9), (RX6, TX6, 15), (RX7, TX7, 31)]
def zTy (g : GC) : List (ClassId × FieldType) := [(g.2.2 0, .int), (g.2.2 1, .long), (g.2.2 2, .boolean), (g.2.2 3, .object "TurnVoice$Present")]
def zNest : List (String × Nat × MethodName × String) := [("TurnVoice", 28, ⟨"TurnVoice$Present", "<init>", "()V"⟩, "TurnVoice"), ("TurnVoice", 42, ⟨"TurnVoice$Voice", "<init>", "()V"⟩, "TurnVoice"), ("TurnVoice", 49, ⟨"TurnVoice$Odds", "<init>", "()V"⟩, "TurnVoice"), ("TurnVoice", 9, ⟨"TurnVoice$Reader", "<init>", "()V"⟩, "TurnVoice"), ("TurnVoice$Odds", 65, ⟨"TurnVoice", "has", "(II)Z"⟩, "TurnVoice"), ("TurnVoice$Past", 17, ⟨"TurnVoice$Present", "<init>", "()V"⟩, "TurnVoice"), ("TurnVoice$Present", 37, ⟨"TurnVoice", "has", "(II)Z"⟩, "TurnVoice"), ("TurnVoice$Reader", 110, ⟨"TurnVoice", "isWithin", "(III)Z"⟩, "TurnVoice"), ("TurnVoice$Town", 54, ⟨"TurnVoice", "has", "(II)Z"⟩, "TurnVoice"), ("TurnVoice$Voice", 78, ⟨"TurnVoice", "has", "(II)Z"⟩, "TurnVoice")]
def zK (g : GC) (U : State) : Prop := va_K g.2.1 zCl (zTy g) U ∧ ∀ q ∈ zNest, va_Nw (.methodLinkNest q.1 q.2.1 q.2.2.1 q.2.2.2) U
theorem zK.moved {g : GC} {u U : State} (h1 : u.vm = U.vm) (h : zK g u) : zK g U := ⟨va_K.moved (h1 ▸ Vm.Alike.refl u.vm) h.1, fun q hq => va_Nw.same rfl h1 (h.2 q hq)⟩
theorem zK.warm {g : GC} {u U : State} (h1 : u.WarmedH U.vm) (h : zK g u) : zK g U := ⟨va_K.moved h1.alike h.1, fun q hq => va_Nw.warmM h1 (h.2 q hq)⟩
def Z (g : GC) (X : XC) (nL k n : Nat) (ws : va_W) (lv : List (Nat × Value)) (st : List Value) (pc : Nat) : Prop :=
  ∀ (H : Heap) (locs : List Loc) (ls : Array Slot), va_P g.2.1 zCl ws H → va_D X.2.2.2.2.2.2.2.2.2.1 ws → va_S X.2.2.2.2.2.2.2.2.2.1 X.2.2.2.1.heap H locs → lv_has ls nL lv →
    W X.1 g.1 X.2.1 X.2.2.1 X.2.2.2.1 X.2.2.2.2.1 X.2.2.2.2.2.1 X.2.2.2.2.2.2.1 X.2.2.2.2.2.2.2.1 X.2.2.2.2.2.2.2.2.1 H locs k n X.2.2.2.2.2.2.2.2.2.2 (F0 X.2.2.2.2.1 pc ls st)
/-- what holds along a walk: the machine, the code, the words, the tables -/
def Ob (g : GC) (X : XC) (cc : ByteArray) (nL : Nat) (own : String) : Prop :=
  X.1.tables.exec = Jvm.exec ∧ X.2.2.2.2.2.2.2.2.1.code = cc ∧ X.2.2.2.2.2.2.2.2.1.maxLocals = nL ∧ X.2.2.2.1.vm.findClass own = some X.2.2.2.2.1.cls ∧ (∀ w ∈ lwA, w.before X.2.2.2.2.2.1 X.2.2.2.1 = true) ∧ zK g X.2.2.2.1 ∧ (∀ q, X.2.2.2.1.heap.size ≤ q → X.2.2.2.2.2.2.2.2.2.1 q)
/-- a method's end: which answers and worlds are right, and how many cells and slots it may make -/
def QcZ (g : GC) (A : Nat → Prop) (Q : Option Value → va_W → Prop) : Array Value → State → Outcome → State → Prop := fun _ st oc t =>
  (∃ (v : Option Value) (w2 : va_W), oc = .returned v ∧ Q v w2 ∧ va_P g.2.1 zCl w2 t.heap ∧ zK g t ∧ va_D A w2) ∧ va_F A st t
def Oe (g : GC) (X : XC) (ret : Option FieldType) (Q : Option Value → va_W → Prop) (mc ms : Nat) : Prop :=
  X.2.2.2.2.2.2.2.1.sig.returnType = ret ∧ X.2.2.2.2.2.2.2.1.locks = false ∧ X.2.2.2.2.2.2.2.2.2.2 = MQ X.2.2.2.2.2.2.1 (QcZ g X.2.2.2.2.2.2.2.2.2.1 Q) X.2.2.2.2.2.1 X.2.2.2.1 mc ms X.2.2.2.2.2.2.2.2.2.1
def lset (i : Nat) (v : Value) : List (Nat × Value) → List (Nat × Value)
  | [] => [(i, v)]
  | (j, w) :: t => if j = i then (i, v) :: t.filter (fun q => !(q.1 == i) && !(q.1 + 1 == i && q.2.category == 2)) else if (j + 1 == i && w.category == 2) = true then lset i v t else (j, w) :: lset i v t
def lset2 (i : Nat) (v : Value) : List (Nat × Value) → List (Nat × Value)
  | [] => [(i, v)]
  | (j, w) :: t => if j = i then (i, v) :: t.filter (fun q => !(q.1 == i) && (!(q.1 == i + 1) && !(q.1 + 1 == i && q.2.category == 2))) else if j = i + 1 then lset2 i v t else if (j + 1 == i && w.category == 2) = true then lset2 i v t else (j, w) :: lset2 i v t
theorem lset_mem (i : Nat) (v : Value) : ∀ (l : List (Nat × Value)) (q : Nat × Value), q ∈ lset i v l → q ∈ (i, v) :: l.filter (fun q => !(q.1 == i) && !(q.1 + 1 == i && q.2.category == 2))
  | [], q, h => h
  | (j, w) :: t, q, h => by
    unfold lset at h
    by_cases h1 : j = i
    · rw [if_pos h1] at h
      subst h1
      rw [List.filter_cons_of_neg (by simp)]
      exact h
    · rw [if_neg h1] at h
      by_cases h2 : (j + 1 == i && w.category == 2) = true
      · rw [if_pos h2] at h
        rw [List.filter_cons_of_neg (by simp only [h2]; simp)]
        exact lset_mem i v t q h
      · rw [if_neg h2] at h
        rw [List.filter_cons_of_pos (by simp only [Bool.not_eq_true] at h2; simp only [h2]; simp [h1])]
        rcases List.mem_cons.mp h with h | h
        · exact List.mem_cons_of_mem _ (h ▸ List.mem_cons_self)
        · rcases List.mem_cons.mp (lset_mem i v t q h) with h | h
          · exact h ▸ List.mem_cons_self
          · exact List.mem_cons_of_mem _ (List.mem_cons_of_mem _ h)
theorem lset2_mem (i : Nat) (v : Value) : ∀ (l : List (Nat × Value)) (q : Nat × Value), q ∈ lset2 i v l → q ∈ (i, v) :: l.filter (fun q => !(q.1 == i) && (!(q.1 == i + 1) && !(q.1 + 1 == i && q.2.category == 2)))
  | [], q, h => h
  | (j, w) :: t, q, h => by
    unfold lset2 at h
    by_cases h1 : j = i
    · rw [if_pos h1] at h
      subst h1
      rw [List.filter_cons_of_neg (by simp)]
      exact h
    · rw [if_neg h1] at h
      by_cases h3 : j = i + 1
      · rw [if_pos h3] at h
        rw [List.filter_cons_of_neg (by simp [h3])]
        exact lset2_mem i v t q h
      · rw [if_neg h3] at h
        by_cases h2 : (j + 1 == i && w.category == 2) = true
        · rw [if_pos h2] at h
          rw [List.filter_cons_of_neg (by simp only [h2]; simp)]
          exact lset2_mem i v t q h
        · rw [if_neg h2] at h
          rw [List.filter_cons_of_pos (by simp only [Bool.not_eq_true] at h2; simp only [h2]; simp [h1, h3])]
          rcases List.mem_cons.mp h with h | h
          · exact List.mem_cons_of_mem _ (h ▸ List.mem_cons_self)
          · rcases List.mem_cons.mp (lset2_mem i v t q h) with h | h
            · exact h ▸ List.mem_cons_self
            · exact List.mem_cons_of_mem _ (List.mem_cons_of_mem _ h)
theorem lv_mono {ls : Array Slot} {nL : Nat} {l l' : List (Nat × Value)} (h : lv_has ls nL l) (hm : ∀ q, q ∈ l' → q ∈ l) : lv_has ls nL l' := ⟨h.1, h.2.1, fun q hq => h.2.2 q (hm q hq)⟩
section ZR
variable {g : GC} {X : XC} {cc : ByteArray} {nL k n pc : Nat} {own : String} {ws : va_W} {lv lv' : List (Nat × Value)} {st : List Value}
theorem z_ws {ws' : va_W} (h : ws = ws') (K : Z g X nL k n ws' lv st pc) : Z g X nL k n ws lv st pc := h ▸ K
theorem z_st {st' : List Value} (h : st = st') (K : Z g X nL k n ws lv st' pc) : Z g X nL k n ws lv st pc := h ▸ K
theorem z_lv (ks : List Nat) (h : lv_pick lv ks = lv') (K : Z g X nL k n ws lv' st pc) : Z g X nL k n ws lv st pc := fun H locs ls hP hD hS hl => K H locs ls hP hD hS (lv_sub hl ks h)
theorem z_lve (h : lv = lv') (K : Z g X nL k n ws lv' st pc) : Z g X nL k n ws lv st pc := h ▸ K
theorem z_topi {x y : Int32} (h : x = y) (K : Z g X nL k n ws lv (.int y :: st) pc) : Z g X nL k n ws lv (.int x :: st) pc := h ▸ K
theorem z_topl {x y : Int64} (h : x = y) (K : Z g X nL k n ws lv (.long y :: st) pc) : Z g X nL k n ws lv (.long x :: st) pc := h ▸ K
theorem z_nami {x : Int32} (K : ∀ y : Int32, y = x → Z g X nL k n ws lv (.int y :: st) pc) : Z g X nL k n ws lv (.int x :: st) pc := K x rfl
theorem z_iconst (E : Ob g X cc nL own) {i : Int} {v : Int32} (hd : decode cc pc = .ok (.iconst i, 1)) (hv : Int32.ofInt i = v) (K : Z g X nL k n ws lv (.int v :: st) (pc + 1)) : Z g X nL k n ws lv (st) pc :=
  fun H locs ls hP hD hS hl => lv_iconst E.1 E.2.1 hd hv (K H locs ls hP hD hS hl)
theorem z_bipush (E : Ob g X cc nL own) {i : Int} {v : Int32} (hd : decode cc pc = .ok (.bipush i, 2)) (hv : (Int8.ofInt i).toInt32 = v) (K : Z g X nL k n ws lv (.int v :: st) (pc + 2)) : Z g X nL k n ws lv (st) pc :=
  fun H locs ls hP hD hS hl => lv_bipush E.1 E.2.1 hd hv (K H locs ls hP hD hS hl)
theorem z_sipush (E : Ob g X cc nL own) {i : Int} {v : Int32} (hd : decode cc pc = .ok (.sipush i, 3)) (hv : (Int16.ofInt i).toInt32 = v) (K : Z g X nL k n ws lv (.int v :: st) (pc + 3)) : Z g X nL k n ws lv (st) pc :=
  fun H locs ls hP hD hS hl => lv_sipush E.1 E.2.1 hd hv (K H locs ls hP hD hS hl)
theorem z_lconst (E : Ob g X cc nL own) {i : Fin 2} {v : Int64} (hd : decode cc pc = .ok (.lconst i, 1)) (hv : Int64.ofNat (i : Nat) = v) (K : Z g X nL k n ws lv (.long v :: st) (pc + 1)) : Z g X nL k n ws lv (st) pc :=
  fun H locs ls hP hD hS hl => lv_lconst E.1 E.2.1 hd hv (K H locs ls hP hD hS hl)
theorem z_iadd (E : Ob g X cc nL own) {x y : Int32} (hd : decode cc pc = .ok (.iadd, 1)) (K : Z g X nL k n ws lv (.int (x + y) :: st) (pc + 1)) : Z g X nL k n ws lv (.int y :: .int x :: st) pc :=
  fun H locs ls hP hD hS hl => lv_iadd E.1 E.2.1 hd (K H locs ls hP hD hS hl)
theorem z_isub (E : Ob g X cc nL own) {x y : Int32} (hd : decode cc pc = .ok (.isub, 1)) (K : Z g X nL k n ws lv (.int (x - y) :: st) (pc + 1)) : Z g X nL k n ws lv (.int y :: .int x :: st) pc :=
  fun H locs ls hP hD hS hl => lv_isub E.1 E.2.1 hd (K H locs ls hP hD hS hl)
theorem z_imul (E : Ob g X cc nL own) {x y : Int32} (hd : decode cc pc = .ok (.imul, 1)) (K : Z g X nL k n ws lv (.int (x * y) :: st) (pc + 1)) : Z g X nL k n ws lv (.int y :: .int x :: st) pc :=
  fun H locs ls hP hD hS hl => lv_imul E.1 E.2.1 hd (K H locs ls hP hD hS hl)
theorem z_iand (E : Ob g X cc nL own) {x y : Int32} (hd : decode cc pc = .ok (.iand, 1)) (K : Z g X nL k n ws lv (.int (x &&& y) :: st) (pc + 1)) : Z g X nL k n ws lv (.int y :: .int x :: st) pc :=
  fun H locs ls hP hD hS hl => lv_iand E.1 E.2.1 hd (K H locs ls hP hD hS hl)
theorem z_ior (E : Ob g X cc nL own) {x y : Int32} (hd : decode cc pc = .ok (.ior, 1)) (K : Z g X nL k n ws lv (.int (x ||| y) :: st) (pc + 1)) : Z g X nL k n ws lv (.int y :: .int x :: st) pc :=
  fun H locs ls hP hD hS hl => lv_ior E.1 E.2.1 hd (K H locs ls hP hD hS hl)
theorem z_ixor (E : Ob g X cc nL own) {x y : Int32} (hd : decode cc pc = .ok (.ixor, 1)) (K : Z g X nL k n ws lv (.int (x ^^^ y) :: st) (pc + 1)) : Z g X nL k n ws lv (.int y :: .int x :: st) pc :=
  fun H locs ls hP hD hS hl => lv_ixor E.1 E.2.1 hd (K H locs ls hP hD hS hl)
theorem z_ishl (E : Ob g X cc nL own) {x y : Int32} (hd : decode cc pc = .ok (.ishl, 1)) (K : Z g X nL k n ws lv (.int (x <<< (y &&& 31)) :: st) (pc + 1)) : Z g X nL k n ws lv (.int y :: .int x :: st) pc :=
  fun H locs ls hP hD hS hl => lv_ishl E.1 E.2.1 hd (K H locs ls hP hD hS hl)
theorem z_ishr (E : Ob g X cc nL own) {x y : Int32} (hd : decode cc pc = .ok (.ishr, 1)) (K : Z g X nL k n ws lv (.int (x >>> (y &&& 31)) :: st) (pc + 1)) : Z g X nL k n ws lv (.int y :: .int x :: st) pc :=
  fun H locs ls hP hD hS hl => lv_ishr E.1 E.2.1 hd (K H locs ls hP hD hS hl)
theorem z_idiv (E : Ob g X cc nL own) {x y : Int32} (hd : decode cc pc = .ok (.idiv, 1)) (hne : ¬ y = 0) (K : Z g X nL k n ws lv (.int (x / y) :: st) (pc + 1)) : Z g X nL k n ws lv (.int y :: .int x :: st) pc :=
  fun H locs ls hP hD hS hl => lv_idiv E.1 E.2.1 hd hne (K H locs ls hP hD hS hl)
theorem z_ladd (E : Ob g X cc nL own) {x y : Int64} (hd : decode cc pc = .ok (.ladd, 1)) (K : Z g X nL k n ws lv (.long (x + y) :: st) (pc + 1)) : Z g X nL k n ws lv (.long y :: .long x :: st) pc :=
  fun H locs ls hP hD hS hl => lv_ladd E.1 E.2.1 hd (K H locs ls hP hD hS hl)
theorem z_lmul (E : Ob g X cc nL own) {x y : Int64} (hd : decode cc pc = .ok (.lmul, 1)) (K : Z g X nL k n ws lv (.long (x * y) :: st) (pc + 1)) : Z g X nL k n ws lv (.long y :: .long x :: st) pc :=
  fun H locs ls hP hD hS hl => lv_lmul E.1 E.2.1 hd (K H locs ls hP hD hS hl)
theorem z_ldiv (E : Ob g X cc nL own) {x y : Int64} (hd : decode cc pc = .ok (.ldiv, 1)) (hne : ¬ y = 0) (K : Z g X nL k n ws lv (.long (x / y) :: st) (pc + 1)) : Z g X nL k n ws lv (.long y :: .long x :: st) pc :=
  fun H locs ls hP hD hS hl => lv_ldiv E.1 E.2.1 hd hne (K H locs ls hP hD hS hl)
theorem z_lrem (E : Ob g X cc nL own) {x y : Int64} (hd : decode cc pc = .ok (.lrem, 1)) (hne : ¬ y = 0) (K : Z g X nL k n ws lv (.long (x - x / y * y) :: st) (pc + 1)) : Z g X nL k n ws lv (.long y :: .long x :: st) pc :=
  fun H locs ls hP hD hS hl => lv_lrem E.1 E.2.1 hd hne (K H locs ls hP hD hS hl)
theorem z_i2l (E : Ob g X cc nL own) {x : Int32} {v : Int64} (hd : decode cc pc = .ok (.i2l, 1)) (hv : x.toInt64 = v) (K : Z g X nL k n ws lv (.long v :: st) (pc + 1)) : Z g X nL k n ws lv (.int x :: st) pc :=
  fun H locs ls hP hD hS hl => lv_i2l E.1 E.2.1 hd hv (K H locs ls hP hD hS hl)
theorem z_dup (E : Ob g X cc nL own) {va : Value} (hd : decode cc pc = .ok (.dup, 1)) (hva : va.category = 1) (K : Z g X nL k n ws lv (va :: va :: st) (pc + 1)) : Z g X nL k n ws lv (va :: st) pc :=
  fun H locs ls hP hD hS hl => lv_dup E.1 E.2.1 hd hva (K H locs ls hP hD hS hl)
theorem z_pop (E : Ob g X cc nL own) {va : Value} (hd : decode cc pc = .ok (.pop, 1)) (hva : va.category = 1) (K : Z g X nL k n ws lv (st) (pc + 1)) : Z g X nL k n ws lv (va :: st) pc :=
  fun H locs ls hP hD hS hl => lv_pop E.1 E.2.1 hd hva (K H locs ls hP hD hS hl)
theorem z_dup2 (E : Ob g X cc nL own) {va vb : Value} (hd : decode cc pc = .ok (.dup2, 1)) (hva : va.category = 1) (hvb : vb.category = 1) (K : Z g X nL k n ws lv (va :: vb :: va :: vb :: st) (pc + 1)) : Z g X nL k n ws lv (va :: vb :: st) pc :=
  fun H locs ls hP hD hS hl => lv_dup2_11 E.1 E.2.1 hd hva hvb (K H locs ls hP hD hS hl)
theorem z_aload_n (E : Ob g X cc nL own) {kk : Fin 4} {x : Nat} (hd : decode cc pc = .ok (.aload_n kk, 1)) (i : Nat) {j : Nat} (h : lv[i]? = some (j, .ref x)) (hj : (kk : Nat) = j) (K : Z g X nL k n ws lv (.ref x :: st) (pc + 1)) : Z g X nL k n ws lv st pc :=
  fun H locs ls hP hD hS hl => lv_aload_n E.1 E.2.1 hd hj (lv_at hl i h) (K H locs ls hP hD hS hl)
theorem z_iload_n (E : Ob g X cc nL own) {kk : Fin 4} {x : Int32} (hd : decode cc pc = .ok (.iload_n kk, 1)) (i : Nat) {j : Nat} (h : lv[i]? = some (j, .int x)) (hj : (kk : Nat) = j) (K : Z g X nL k n ws lv (.int x :: st) (pc + 1)) : Z g X nL k n ws lv st pc :=
  fun H locs ls hP hD hS hl => lv_iload_n E.1 E.2.1 hd hj (lv_at hl i h) (K H locs ls hP hD hS hl)
theorem z_lload_n (E : Ob g X cc nL own) {kk : Fin 4} {x : Int64} (hd : decode cc pc = .ok (.lload_n kk, 1)) (i : Nat) {j : Nat} (h : lv[i]? = some (j, .long x)) (hj : (kk : Nat) = j) (K : Z g X nL k n ws lv (.long x :: st) (pc + 1)) : Z g X nL k n ws lv st pc :=
  fun H locs ls hP hD hS hl => lv_lload_n E.1 E.2.1 hd hj (lv_at hl i h) (K H locs ls hP hD hS hl)
theorem z_iload (E : Ob g X cc nL own) {j : Nat} {x : Int32} (hd : decode cc pc = .ok (.iload j, 2)) (i : Nat) (h : lv[i]? = some (j, .int x)) (K : Z g X nL k n ws lv (.int x :: st) (pc + 2)) : Z g X nL k n ws lv st pc :=
  fun H locs ls hP hD hS hl => lv_iload E.1 E.2.1 hd (lv_at hl i h) (K H locs ls hP hD hS hl)
theorem z_lload (E : Ob g X cc nL own) {j : Nat} {x : Int64} (hd : decode cc pc = .ok (.lload j, 2)) (i : Nat) (h : lv[i]? = some (j, .long x)) (K : Z g X nL k n ws lv (.long x :: st) (pc + 2)) : Z g X nL k n ws lv st pc :=
  fun H locs ls hP hD hS hl => lv_lload E.1 E.2.1 hd (lv_at hl i h) (K H locs ls hP hD hS hl)
theorem z_istore_n (E : Ob g X cc nL own) {kk : Fin 4} {x : Int32} (hd : decode cc pc = .ok (.istore_n kk, 1)) (j : Nat) (hj : (kk : Nat) = j) (hn : j < nL) (hl' : lset j (.int x) lv = lv') (K : Z g X nL k n ws lv' st (pc + 1)) : Z g X nL k n ws lv (.int x :: st) pc :=
  fun H locs ls hP hD hS hl => lv_istore_n E.1 E.2.1 hd hj hl hn rfl (fun ls' h' => K H locs ls' hP hD hS (lv_mono h' (fun q hq => lset_mem _ _ _ q (hl' ▸ hq))))
theorem z_istore (E : Ob g X cc nL own) {j : Nat} {x : Int32} (hd : decode cc pc = .ok (.istore j, 2)) (hn : j < nL) (hl' : lset j (.int x) lv = lv') (K : Z g X nL k n ws lv' st (pc + 2)) : Z g X nL k n ws lv (.int x :: st) pc :=
  fun H locs ls hP hD hS hl => lv_istore E.1 E.2.1 hd hl hn rfl (fun ls' h' => K H locs ls' hP hD hS (lv_mono h' (fun q hq => lset_mem _ _ _ q (hl' ▸ hq))))
theorem z_astore_n (E : Ob g X cc nL own) {kk : Fin 4} {x : Nat} (hd : decode cc pc = .ok (.astore_n kk, 1)) (j : Nat) (hj : (kk : Nat) = j) (hn : j < nL) (hl' : lset j (.ref x) lv = lv') (K : Z g X nL k n ws lv' st (pc + 1)) : Z g X nL k n ws lv (.ref x :: st) pc :=
  fun H locs ls hP hD hS hl => lv_astore_n E.1 E.2.1 hd hj hl hn rfl (fun ls' h' => K H locs ls' hP hD hS (lv_mono h' (fun q hq => lset_mem _ _ _ q (hl' ▸ hq))))
theorem z_lstore_n (E : Ob g X cc nL own) {kk : Fin 4} {x : Int64} (hd : decode cc pc = .ok (.lstore_n kk, 1)) (j : Nat) (hj : (kk : Nat) = j) (hn : j + 1 < nL) (hl' : lset2 j (.long x) lv = lv') (K : Z g X nL k n ws lv' st (pc + 1)) : Z g X nL k n ws lv (.long x :: st) pc :=
  fun H locs ls hP hD hS hl => lv_lstore_n E.1 E.2.1 hd hj hl hn rfl (fun ls' h' => K H locs ls' hP hD hS (lv_mono h' (fun q hq => lset2_mem _ _ _ q (hl' ▸ hq))))
theorem z_lstore (E : Ob g X cc nL own) {j : Nat} {x : Int64} (hd : decode cc pc = .ok (.lstore j, 2)) (hn : j + 1 < nL) (hl' : lset2 j (.long x) lv = lv') (K : Z g X nL k n ws lv' st (pc + 2)) : Z g X nL k n ws lv (.long x :: st) pc :=
  fun H locs ls hP hD hS hl => lv_lstore E.1 E.2.1 hd hl hn rfl (fun ls' h' => K H locs ls' hP hD hS (lv_mono h' (fun q hq => lset2_mem _ _ _ q (hl' ▸ hq))))
theorem z_iinc (E : Ob g X cc nL own) {j : Nat} {d : Int} {x v : Int32} (hd : decode cc pc = .ok (.iinc j d, 3)) (i : Nat) (h : lv[i]? = some (j, .int x)) (hv : x + Int32.ofInt d = v) (hn : j < nL) (hl' : lset j (.int v) lv = lv') (K : Z g X nL k n ws lv' st (pc + 3)) : Z g X nL k n ws lv st pc :=
  fun H locs ls hP hD hS hl => lv_iinc E.1 E.2.1 hd hl h hv hn rfl (fun ls' h' => K H locs ls' hP hD hS (lv_mono h' (fun q hq => lset_mem _ _ _ q (hl' ▸ hq))))
theorem z_goto (E : Ob g X cc nL own) {off : Int} (hd : decode cc pc = .ok (.goto off, 3)) (tgt : Nat) (ht : (pc : Int) + off = (tgt : Int)) (K : Z g X nL k n ws lv st tgt) : Z g X nL k n ws lv st pc :=
  fun H locs ls hP hD hS hl => lv_goto E.1 E.2.1 hd ht (K H locs ls hP hD hS hl)
theorem z_icmp_eq (E : Ob g X cc nL own) {x y : Int32} {off : Int} (hd : decode cc pc = .ok (.if_icmp .eq off, 3)) (tgt : Nat) (ht : (pc : Int) + off = (tgt : Int)) (kt : x = y → Z g X nL k n ws lv st tgt) (kf : ¬ x = y → Z g X nL k n ws lv st (pc + 3)) : Z g X nL k n ws lv (.int y :: .int x :: st) pc :=
  fun H locs ls hP hD hS hl => lv_icmp_eq E.1 E.2.1 hd ht (fun h => kt h H locs ls hP hD hS hl) (fun h => kf h H locs ls hP hD hS hl)
theorem z_if_eq (E : Ob g X cc nL own) {x : Int32} {off : Int} (hd : decode cc pc = .ok (.ifCond .eq off, 3)) (tgt : Nat) (ht : (pc : Int) + off = (tgt : Int)) (kt : x = 0 → Z g X nL k n ws lv st tgt) (kf : ¬ x = 0 → Z g X nL k n ws lv st (pc + 3)) : Z g X nL k n ws lv (.int x :: st) pc :=
  fun H locs ls hP hD hS hl => lv_if_eq E.1 E.2.1 hd ht (fun h => kt h H locs ls hP hD hS hl) (fun h => kf h H locs ls hP hD hS hl)
theorem z_icmpN_eq (E : Ob g X cc nL own) {a b : Nat} {off : Int} (hd : decode cc pc = .ok (.if_icmp .eq off, 3)) (tgt : Nat) (ht : (pc : Int) + off = (tgt : Int)) (ha : a < 2 ^ 31) (hb : b < 2 ^ 31) (kt : a = b → Z g X nL k n ws lv st tgt) (kf : a ≠ b → Z g X nL k n ws lv st (pc + 3)) : Z g X nL k n ws lv (.int (nI b) :: .int (nI a) :: st) pc :=
  z_icmp_eq E hd tgt ht (fun h => kt ((nI_eq ha hb).mp h)) (fun h => kf (fun e => h ((nI_eq ha hb).mpr e)))
theorem z_icmp_ne (E : Ob g X cc nL own) {x y : Int32} {off : Int} (hd : decode cc pc = .ok (.if_icmp .ne off, 3)) (tgt : Nat) (ht : (pc : Int) + off = (tgt : Int)) (kt : ¬ x = y → Z g X nL k n ws lv st tgt) (kf : x = y → Z g X nL k n ws lv st (pc + 3)) : Z g X nL k n ws lv (.int y :: .int x :: st) pc :=
  fun H locs ls hP hD hS hl => lv_icmp_ne E.1 E.2.1 hd ht (fun h => kt h H locs ls hP hD hS hl) (fun h => kf h H locs ls hP hD hS hl)
theorem z_if_ne (E : Ob g X cc nL own) {x : Int32} {off : Int} (hd : decode cc pc = .ok (.ifCond .ne off, 3)) (tgt : Nat) (ht : (pc : Int) + off = (tgt : Int)) (kt : ¬ x = 0 → Z g X nL k n ws lv st tgt) (kf : x = 0 → Z g X nL k n ws lv st (pc + 3)) : Z g X nL k n ws lv (.int x :: st) pc :=
  fun H locs ls hP hD hS hl => lv_if_ne E.1 E.2.1 hd ht (fun h => kt h H locs ls hP hD hS hl) (fun h => kf h H locs ls hP hD hS hl)
theorem z_icmpN_ne (E : Ob g X cc nL own) {a b : Nat} {off : Int} (hd : decode cc pc = .ok (.if_icmp .ne off, 3)) (tgt : Nat) (ht : (pc : Int) + off = (tgt : Int)) (ha : a < 2 ^ 31) (hb : b < 2 ^ 31) (kt : a ≠ b → Z g X nL k n ws lv st tgt) (kf : a = b → Z g X nL k n ws lv st (pc + 3)) : Z g X nL k n ws lv (.int (nI b) :: .int (nI a) :: st) pc :=
  z_icmp_ne E hd tgt ht (fun h => kt (fun e => h ((nI_eq ha hb).mpr e))) (fun h => kf ((nI_eq ha hb).mp h))
theorem z_icmp_lt (E : Ob g X cc nL own) {x y : Int32} {off : Int} (hd : decode cc pc = .ok (.if_icmp .lt off, 3)) (tgt : Nat) (ht : (pc : Int) + off = (tgt : Int)) (kt : x < y → Z g X nL k n ws lv st tgt) (kf : ¬ x < y → Z g X nL k n ws lv st (pc + 3)) : Z g X nL k n ws lv (.int y :: .int x :: st) pc :=
  fun H locs ls hP hD hS hl => lv_icmp_lt E.1 E.2.1 hd ht (fun h => kt h H locs ls hP hD hS hl) (fun h => kf h H locs ls hP hD hS hl)
theorem z_if_lt (E : Ob g X cc nL own) {x : Int32} {off : Int} (hd : decode cc pc = .ok (.ifCond .lt off, 3)) (tgt : Nat) (ht : (pc : Int) + off = (tgt : Int)) (kt : x < 0 → Z g X nL k n ws lv st tgt) (kf : ¬ x < 0 → Z g X nL k n ws lv st (pc + 3)) : Z g X nL k n ws lv (.int x :: st) pc :=
  fun H locs ls hP hD hS hl => lv_if_lt E.1 E.2.1 hd ht (fun h => kt h H locs ls hP hD hS hl) (fun h => kf h H locs ls hP hD hS hl)
theorem z_icmpN_lt (E : Ob g X cc nL own) {a b : Nat} {off : Int} (hd : decode cc pc = .ok (.if_icmp .lt off, 3)) (tgt : Nat) (ht : (pc : Int) + off = (tgt : Int)) (ha : a < 2 ^ 31) (hb : b < 2 ^ 31) (kt : a < b → Z g X nL k n ws lv st tgt) (kf : b ≤ a → Z g X nL k n ws lv st (pc + 3)) : Z g X nL k n ws lv (.int (nI b) :: .int (nI a) :: st) pc :=
  z_icmp_lt E hd tgt ht (fun h => kt ((nI_ltI ha hb).mp h)) (fun h => kf (Nat.not_lt.mp (fun e => h ((nI_ltI ha hb).mpr e))))
theorem z_icmp_ge (E : Ob g X cc nL own) {x y : Int32} {off : Int} (hd : decode cc pc = .ok (.if_icmp .ge off, 3)) (tgt : Nat) (ht : (pc : Int) + off = (tgt : Int)) (kt : y ≤ x → Z g X nL k n ws lv st tgt) (kf : ¬ y ≤ x → Z g X nL k n ws lv st (pc + 3)) : Z g X nL k n ws lv (.int y :: .int x :: st) pc :=
  fun H locs ls hP hD hS hl => lv_icmp_ge E.1 E.2.1 hd ht (fun h => kt h H locs ls hP hD hS hl) (fun h => kf h H locs ls hP hD hS hl)
theorem z_if_ge (E : Ob g X cc nL own) {x : Int32} {off : Int} (hd : decode cc pc = .ok (.ifCond .ge off, 3)) (tgt : Nat) (ht : (pc : Int) + off = (tgt : Int)) (kt : 0 ≤ x → Z g X nL k n ws lv st tgt) (kf : ¬ 0 ≤ x → Z g X nL k n ws lv st (pc + 3)) : Z g X nL k n ws lv (.int x :: st) pc :=
  fun H locs ls hP hD hS hl => lv_if_ge E.1 E.2.1 hd ht (fun h => kt h H locs ls hP hD hS hl) (fun h => kf h H locs ls hP hD hS hl)
theorem z_icmpN_ge (E : Ob g X cc nL own) {a b : Nat} {off : Int} (hd : decode cc pc = .ok (.if_icmp .ge off, 3)) (tgt : Nat) (ht : (pc : Int) + off = (tgt : Int)) (ha : a < 2 ^ 31) (hb : b < 2 ^ 31) (kt : b ≤ a → Z g X nL k n ws lv st tgt) (kf : a < b → Z g X nL k n ws lv st (pc + 3)) : Z g X nL k n ws lv (.int (nI b) :: .int (nI a) :: st) pc :=
  z_icmp_ge E hd tgt ht (fun h => kt ((nI_leI hb ha).mp h)) (fun h => kf (Nat.not_le.mp (fun e => h ((nI_leI hb ha).mpr e))))
theorem z_icmp_gt (E : Ob g X cc nL own) {x y : Int32} {off : Int} (hd : decode cc pc = .ok (.if_icmp .gt off, 3)) (tgt : Nat) (ht : (pc : Int) + off = (tgt : Int)) (kt : y < x → Z g X nL k n ws lv st tgt) (kf : ¬ y < x → Z g X nL k n ws lv st (pc + 3)) : Z g X nL k n ws lv (.int y :: .int x :: st) pc :=
  fun H locs ls hP hD hS hl => lv_icmp_gt E.1 E.2.1 hd ht (fun h => kt h H locs ls hP hD hS hl) (fun h => kf h H locs ls hP hD hS hl)
theorem z_if_gt (E : Ob g X cc nL own) {x : Int32} {off : Int} (hd : decode cc pc = .ok (.ifCond .gt off, 3)) (tgt : Nat) (ht : (pc : Int) + off = (tgt : Int)) (kt : 0 < x → Z g X nL k n ws lv st tgt) (kf : ¬ 0 < x → Z g X nL k n ws lv st (pc + 3)) : Z g X nL k n ws lv (.int x :: st) pc :=
  fun H locs ls hP hD hS hl => lv_if_gt E.1 E.2.1 hd ht (fun h => kt h H locs ls hP hD hS hl) (fun h => kf h H locs ls hP hD hS hl)
theorem z_icmpN_gt (E : Ob g X cc nL own) {a b : Nat} {off : Int} (hd : decode cc pc = .ok (.if_icmp .gt off, 3)) (tgt : Nat) (ht : (pc : Int) + off = (tgt : Int)) (ha : a < 2 ^ 31) (hb : b < 2 ^ 31) (kt : b < a → Z g X nL k n ws lv st tgt) (kf : a ≤ b → Z g X nL k n ws lv st (pc + 3)) : Z g X nL k n ws lv (.int (nI b) :: .int (nI a) :: st) pc :=
  z_icmp_gt E hd tgt ht (fun h => kt ((nI_ltI hb ha).mp h)) (fun h => kf (Nat.not_lt.mp (fun e => h ((nI_ltI hb ha).mpr e))))
theorem z_icmp_le (E : Ob g X cc nL own) {x y : Int32} {off : Int} (hd : decode cc pc = .ok (.if_icmp .le off, 3)) (tgt : Nat) (ht : (pc : Int) + off = (tgt : Int)) (kt : x ≤ y → Z g X nL k n ws lv st tgt) (kf : ¬ x ≤ y → Z g X nL k n ws lv st (pc + 3)) : Z g X nL k n ws lv (.int y :: .int x :: st) pc :=
  fun H locs ls hP hD hS hl => lv_icmp_le E.1 E.2.1 hd ht (fun h => kt h H locs ls hP hD hS hl) (fun h => kf h H locs ls hP hD hS hl)
theorem z_if_le (E : Ob g X cc nL own) {x : Int32} {off : Int} (hd : decode cc pc = .ok (.ifCond .le off, 3)) (tgt : Nat) (ht : (pc : Int) + off = (tgt : Int)) (kt : x ≤ 0 → Z g X nL k n ws lv st tgt) (kf : ¬ x ≤ 0 → Z g X nL k n ws lv st (pc + 3)) : Z g X nL k n ws lv (.int x :: st) pc :=
  fun H locs ls hP hD hS hl => lv_if_le E.1 E.2.1 hd ht (fun h => kt h H locs ls hP hD hS hl) (fun h => kf h H locs ls hP hD hS hl)
theorem z_icmpN_le (E : Ob g X cc nL own) {a b : Nat} {off : Int} (hd : decode cc pc = .ok (.if_icmp .le off, 3)) (tgt : Nat) (ht : (pc : Int) + off = (tgt : Int)) (ha : a < 2 ^ 31) (hb : b < 2 ^ 31) (kt : a ≤ b → Z g X nL k n ws lv st tgt) (kf : b < a → Z g X nL k n ws lv st (pc + 3)) : Z g X nL k n ws lv (.int (nI b) :: .int (nI a) :: st) pc :=
  z_icmp_le E hd tgt ht (fun h => kt ((nI_leI ha hb).mp h)) (fun h => kf (Nat.not_le.mp (fun e => h ((nI_leI ha hb).mpr e))))
theorem z_tabIn (E : Ob g X cc nL own) {dflt lo hi : Int} {offs : Array Int} {len : Nat} {x : Int32} {off : Int} (hd : decode cc pc = .ok (.tableswitch dflt lo hi offs, len)) (tgt : Nat) (h1 : ¬ x.toInt < lo) (h2 : ¬ hi < x.toInt) (ho : offs[(x.toInt - lo).toNat]? = some off) (ht : (pc : Int) + off = (tgt : Int)) (K : Z g X nL k n ws lv st tgt) : Z g X nL k n ws lv (.int x :: st) pc :=
  fun H locs ls hP hD hS hl => lv_tableIn E.1 E.2.1 hd h1 h2 ho ht (K H locs ls hP hD hS hl)
theorem z_tabOut (E : Ob g X cc nL own) {dflt lo hi : Int} {offs : Array Int} {len : Nat} {x : Int32} (hd : decode cc pc = .ok (.tableswitch dflt lo hi offs, len)) (tgt : Nat) (h : x.toInt < lo ∨ hi < x.toInt) (ht : (pc : Int) + dflt = (tgt : Int)) (K : Z g X nL k n ws lv st tgt) : Z g X nL k n ws lv (.int x :: st) pc :=
  fun H locs ls hP hD hS hl => lv_tableOut E.1 E.2.1 hd h ht (K H locs ls hP hD hS hl)
theorem z_lookup (E : Ob g X cc nL own) {dflt : Int} {ps : Array (Int × Int)} {len : Nat} {x : Int32} {off : Int} (hd : decode cc pc = .ok (.lookupswitch dflt ps, len)) (tgt : Nat) (hp : (ps.toList.zip (ps.toList.drop 1)).all (fun (a, next) => a.1 < next.1) = true) (ho : Op.lookupswitch.offset ps.toList dflt x.toInt = off) (ht : (pc : Int) + off = (tgt : Int)) (K : Z g X nL k n ws lv st tgt) : Z g X nL k n ws lv (.int x :: st) pc :=
  fun H locs ls hP hD hS hl => lv_lookup E.1 E.2.1 hd hp ho ht (K H locs ls hP hD hS hl)
theorem z_ldc (E : Ob g X cc nL own) {ix : Nat} {v : Int32} (hd : decode cc pc = .ok (.ldc ix, 2)) (hw : Cond.constant own ix v ∈ lwA) (K : Z g X nL k n ws lv (.int v :: st) (pc + 2)) : Z g X nL k n ws lv st pc :=
  fun H locs ls hP hD hS hl => lv_ldc E.1 E.2.1 E.2.2.2.1 (E.2.2.2.2.1 _ hw) hd (K H locs ls hP hD hS hl)
theorem z_ldc2 (E : Ob g X cc nL own) {ix : Nat} {v : Int64} (hd : decode cc pc = .ok (.ldc2_w ix, 3)) (hw : Cond.constantLong own ix v ∈ lwA) (K : Z g X nL k n ws lv (.long v :: st) (pc + 3)) : Z g X nL k n ws lv st pc :=
  fun H locs ls hP hD hS hl => lv_ldc2 E.1 E.2.1 E.2.2.2.1 (E.2.2.2.2.1 _ hw) hd (K H locs ls hP hD hS hl)
theorem z_lcmp (E : Ob g X cc nL own) {x y : Int64} (hd : decode cc pc = .ok (.lcmp, 1)) (K : Z g X nL k n ws lv (.int (lg_cmp x y) :: st) (pc + 1)) : Z g X nL k n ws lv (.long y :: .long x :: st) pc :=
  fun H locs ls hP hD hS hl => W.lcmp E.1 E.2.1 hd (K H locs ls hP hD hS hl)
theorem z_get (E : Ob g X cc nL own) {ix ci N : Nat} {C : String} {T : u_T} (hc : zCl[ci]? = some (C, T, N)) (hin : ∀ w ∈ u_ws C T N, w ∈ lwA) (f : Nat) (hf : f < N) (hr : (T f).1 = C) (hl : Cond.fieldLink own ix C (T f).2.1 (T f).2.2.1 ∈ lwA)
    (hd : decode cc pc = .ok (.getfield ix, 3)) (q : Nat) {a : Nat} {fs : List Value} (he : ws[q]? = some (a, .inr (ci, fs))) {v : Value} (hv : fs[f]? = some v) (K : Z g X nL k n ws lv (v :: st) (pc + 3)) : Z g X nL k n ws lv (.ref a :: st) pc :=
  fun H locs ls hP hD hS hl' => va_get (D := g.2.1) (ci := ci) E.1 E.2.1 E.2.2.2.2.1 hin E.2.2.2.1 E.2.2.2.2.2.1.1 hP q he hc f hf (E.2.2.2.2.1 _ hl) (fun _ h9 => by rw [hr] at h9; exact h9) hv hd (K H locs ls hP hD hS hl')
theorem z_put (E : Ob g X cc nL own) {ix ci N : Nat} {C : String} {T : u_T} (ty : Nat → FieldType) (hc : zCl[ci]? = some (C, T, N)) (hin : ∀ w ∈ u_ws C T N, w ∈ lwA) (hty : ∀ k, k < N → parseFieldDescriptor (T k).2.2.1 = some (ty k)) (hnm : ∀ a, a < N → ∀ b, b < N → a ≠ b → (T a).2.1 ≠ (T b).2.1) (f : Nat) (hf : f < N) (hr : (T f).1 = C) (hl : Cond.fieldLink own ix C (T f).2.1 (T f).2.2.1 ∈ lwA) (hfin : (T f).2.2.2 = false)
    (hd : decode cc pc = .ok (.putfield ix, 3)) (q : Nat) {a : Nat} {fs : List Value} (he : ws[q]? = some (a, .inr (ci, fs))) (hfl : f < fs.length) {v : Value} (hn : narrow (ty f) v = v) (hfit : fits (ty f) v = true) {ws' : va_W} (hws : ws.set q (a, .inr (ci, fs.set f v)) = ws') (K : Z g X nL k n ws' lv st (pc + 3)) : Z g X nL k n ws lv (v :: .ref a :: st) pc :=
  fun H locs ls hP hD hS hl' => va_put (D := g.2.1) (ci := ci) E.1 E.2.1 E.2.2.2.2.1 hin ty hty hnm E.2.2.2.1 E.2.2.2.2.2.1.1 hP hD hS q he hc f hf (E.2.2.2.2.1 _ hl) (fun _ h9 => by rw [hr] at h9; exact h9) hfin (hty f hf) hn hfit hfl hd (fun H1 locs1 h1 h2 h3 => K H1 locs1 ls (hws ▸ h1) (hws ▸ h2) h3 hl')
theorem z_iald (E : Ob g X cc nL own) (hd : decode cc pc = .ok (.iaload, 1)) (q : Nat) {a N : Nat} {f : Nat → Int32} (he : ws[q]? = some (a, .inl (g.2.2 0, N, .inl f))) {i : Int32} (hi : vp_in i N) (K : Z g X nL k n ws lv (.int (f i.toNatClampNeg) :: st) (pc + 1)) : Z g X nL k n ws lv (.int i :: .ref a :: st) pc :=
  fun H locs ls hP hD hS hl => va_iald E.1 E.2.1 E.2.2.2.2.2.1.1 hP q 0 he rfl hi hd (K H locs ls hP hD hS hl)
theorem z_iast (E : Ob g X cc nL own) (hd : decode cc pc = .ok (.iastore, 1)) (q : Nat) {a N : Nat} {f : Nat → Int32} (he : ws[q]? = some (a, .inl (g.2.2 0, N, .inl f))) {i x : Int32} (hi : vp_in i N) {ws' : va_W} (hws : ws.set q (a, .inl (g.2.2 0, N, .inl (upd f i.toNatClampNeg x))) = ws') (K : Z g X nL k n ws' lv st (pc + 1)) : Z g X nL k n ws lv (.int x :: .int i :: .ref a :: st) pc :=
  fun H locs ls hP hD hS hl => va_iast E.1 E.2.1 E.2.2.2.2.2.1.1 hP hD hS q 0 he rfl hi hd (fun H1 locs1 h1 h2 h3 => K H1 locs1 ls (hws ▸ h1) (hws ▸ h2) h3 hl)
theorem z_lald (E : Ob g X cc nL own) (hd : decode cc pc = .ok (.laload, 1)) (q : Nat) {a N : Nat} {f : Nat → Int64} (he : ws[q]? = some (a, .inl (g.2.2 1, N, .inr (.inl f)))) {i : Int32} (hi : vp_in i N) (K : Z g X nL k n ws lv (.long (f i.toNatClampNeg) :: st) (pc + 1)) : Z g X nL k n ws lv (.int i :: .ref a :: st) pc :=
  fun H locs ls hP hD hS hl => va_lald E.1 E.2.1 E.2.2.2.2.2.1.1 hP q 1 he rfl hi hd (K H locs ls hP hD hS hl)
theorem z_last (E : Ob g X cc nL own) (hd : decode cc pc = .ok (.lastore, 1)) (q : Nat) {a N : Nat} {f : Nat → Int64} (he : ws[q]? = some (a, .inl (g.2.2 1, N, .inr (.inl f)))) {i : Int32} {x : Int64} (hi : vp_in i N) {ws' : va_W} (hws : ws.set q (a, .inl (g.2.2 1, N, .inr (.inl (vp_updL f i.toNatClampNeg x)))) = ws') (K : Z g X nL k n ws' lv st (pc + 1)) : Z g X nL k n ws lv (.long x :: .int i :: .ref a :: st) pc :=
  fun H locs ls hP hD hS hl => va_last E.1 E.2.1 E.2.2.2.2.2.1.1 hP hD hS q 1 he rfl hi hd (fun H1 locs1 h1 h2 h3 => K H1 locs1 ls (hws ▸ h1) (hws ▸ h2) h3 hl)
theorem z_zald (E : Ob g X cc nL own) (hd : decode cc pc = .ok (.baload, 1)) (q : Nat) {a N : Nat} {f : Nat → Int32} (he : ws[q]? = some (a, .inl (g.2.2 2, N, .inl f))) {i : Int32} (hi : vp_in i N) (K : Z g X nL k n ws lv (.int (f i.toNatClampNeg) :: st) (pc + 1)) : Z g X nL k n ws lv (.int i :: .ref a :: st) pc :=
  fun H locs ls hP hD hS hl => va_zald E.1 E.2.1 E.2.2.2.2.2.1.1 hP q 2 he rfl hi hd (K H locs ls hP hD hS hl)
theorem z_zast (E : Ob g X cc nL own) (hd : decode cc pc = .ok (.bastore, 1)) (q : Nat) {a N : Nat} {f : Nat → Int32} (he : ws[q]? = some (a, .inl (g.2.2 2, N, .inl f))) {i x : Int32} (hi : vp_in i N) (hx : vp_nar .boolean x = x) {ws' : va_W} (hws : ws.set q (a, .inl (g.2.2 2, N, .inl (upd f i.toNatClampNeg x))) = ws') (K : Z g X nL k n ws' lv st (pc + 1)) : Z g X nL k n ws lv (.int x :: .int i :: .ref a :: st) pc :=
  fun H locs ls hP hD hS hl => va_zast E.1 E.2.1 E.2.2.2.2.2.1.1 hP hD hS q 2 he rfl hi hd (fun H1 locs1 h1 h2 h3 => K H1 locs1 ls (by rw [hx] at h1; exact hws ▸ h1) (by rw [hx] at h2; exact hws ▸ h2) h3 hl)
theorem z_aald (E : Ob g X cc nL own) (hd : decode cc pc = .ok (.aaload, 1)) (q : Nat) {a N : Nat} {f : Nat → Option Nat} (he : ws[q]? = some (a, .inl (g.2.2 3, N, .inr (.inr (.inr (.inr f)))))) {i : Int32} (hi : vp_in i N) (K : Z g X nL k n ws lv (va_rf (f i.toNatClampNeg) :: st) (pc + 1)) : Z g X nL k n ws lv (.int i :: .ref a :: st) pc :=
  fun H locs ls hP hD hS hl => va_aldq (C := "TurnVoice$Present") E.1 E.2.1 E.2.2.2.2.2.1.1 hP q 3 he rfl hi hd (K H locs ls hP hD hS hl)
theorem z_vret {Q : Option Value → va_W → Prop} (E : Ob g X cc nL own) (Er : Oe g X none Q k n) (hd : decode cc pc = .ok (.return_, 1)) (hq : Q none ws) : Z g X nL k n ws lv [] pc := by
  obtain ⟨p, e, R, s, m, args, below, meth, c, A, F⟩ := X
  obtain ⟨h1, h2, h3⟩ := Er
  intro H locs ls hP hD hS hl
  dsimp only at h1 h2 h3 hP hD hS ⊢
  subst h3
  exact W.vret E.1 E.2.1 h1 (fun t ht hW => ⟨⟨none, ws, rfl, hq, by rw [ht]; exact hP, E.2.2.2.2.2.1.warm hW, hD⟩, hS.F ht⟩) hS.2.2 hd h2
theorem z_iret {Q : Option Value → va_W → Prop} {v : Int32} (E : Ob g X cc nL own) (Er : Oe g X (some .int) Q k n) (hd : decode cc pc = .ok (.ireturn, 1)) (hq : Q (some (.int v)) ws) : Z g X nL k n ws lv [.int v] pc := by
  obtain ⟨p, e, R, s, m, args, below, meth, c, A, F⟩ := X
  obtain ⟨h1, h2, h3⟩ := Er
  intro H locs ls hP hD hS hl
  dsimp only at h1 h2 h3 hP hD hS ⊢
  subst h3
  exact W.iret E.1 E.2.1 h1 (fun t ht hW => ⟨⟨some (.int v), ws, rfl, hq, by rw [ht]; exact hP, E.2.2.2.2.2.1.warm hW, hD⟩, hS.F ht⟩) hS.2.2 hd h2
theorem z_zret {Q : Option Value → va_W → Prop} {v : Int32} (E : Ob g X cc nL own) (Er : Oe g X (some .boolean) Q k n) (hd : decode cc pc = .ok (.ireturn, 1)) (hn : narrow .boolean (.int v) = .int v) (hq : Q (some (.int v)) ws) : Z g X nL k n ws lv [.int v] pc := by
  obtain ⟨p, e, R, s, m, args, below, meth, c, A, F⟩ := X
  obtain ⟨h1, h2, h3⟩ := Er
  intro H locs ls hP hD hS hl
  dsimp only at h1 h2 h3 hP hD hS ⊢
  subst h3
  exact W.zret E.1 E.2.1 h1 hn (fun t ht hW => ⟨⟨some (.int v), ws, rfl, hq, by rw [ht]; exact hP, E.2.2.2.2.2.1.warm hW, hD⟩, hS.F ht⟩) hS.2.2 hd h2
theorem z_lret {Q : Option Value → va_W → Prop} {v : Int64} (E : Ob g X cc nL own) (Er : Oe g X (some .long) Q k n) (hd : decode cc pc = .ok (.lreturn, 1)) (hq : Q (some (.long v)) ws) : Z g X nL k n ws lv [.long v] pc := by
  obtain ⟨p, e, R, s, m, args, below, meth, c, A, F⟩ := X
  obtain ⟨h1, h2, h3⟩ := Er
  intro H locs ls hP hD hS hl
  dsimp only at h1 h2 h3 hP hD hS ⊢
  subst h3
  exact W.lret E.1 E.2.1 h1 (fun t ht hW => ⟨⟨some (.long v), ws, rfl, hq, by rw [ht]; exact hP, E.2.2.2.2.2.1.warm hW, hD⟩, hS.F ht⟩) hS.2.2 hd h2
theorem z_widen {k' n' : Nat} (h1 : k ≤ k') (h2 : n ≤ n') (K : Z g X nL k' n' ws lv st pc) : Z g X nL k n ws lv st pc := fun H locs ls hP hD hS hl => W.widen h1 h2 (K H locs ls hP hD hS hl)
end ZR
/-- the room of a method at height d of the calls -/
def zR (d mc ms : Nat) : Room := { frames := d, cells := mc, slots := ms, locals := 40 * d }
/-- A CONTRACT: from the world w the method y, called with av, ends with an answer and a world that Q allows -/
def Ct (g : GC) (y : MethodName) (cc : ByteArray) (maxL : Nat) (ret : Option FieldType) (d mc ms : Nat) (av : List Value) (w : va_W) (Q : Option Value → va_W → Prop) : Prop :=
  ∀ sz : Nat, Met g.1 y (Cond.code y cc maxL ret :: lwA) (zR d mc ms) (va_Pc av (fun U => U.heap.size = sz ∧ va_P g.2.1 zCl w U.heap ∧ zK g U ∧ va_D (fun _ => True) w)) (QcZ g (va_A w sz) Q) mc ms (va_A w sz)
/-- a contract out of a walk -/
theorem Ct.of {g : GC} {y : MethodName} {cc : ByteArray} {maxL d mc ms : Nat} {ret : Option FieldType} {av : List Value} {w : va_W} {Q : Option Value → va_W → Prop} (hy : plainName y.cls = true) (hav : (lg_sl av).length ≤ maxL)
    (walk : ∀ X : XC, Ob g X cc maxL y.cls → Oe g X ret Q mc ms → X.2.2.1 = zR d mc ms → X.2.2.2.1.heap.size = X.2.2.2.1.heap.size → (y.name = X.2.2.2.2.2.2.2.1.name) → Z g X maxL 0 0 w (lv_args 0 av) [] 0) : Ct g y cc maxL ret d mc ms av w Q := by
  intro sz
  refine Met.ofW (cc := cc) (maxL := maxL) (ret := ret) hy rfl ?_
  intro p e s m args below meth c s₁ B hml hv
  obtain ⟨rfl, hsz, hP, hK, hD0⟩ := hv
  subst hsz
  have hts := atoms_spec (ws := Cond.code y cc maxL ret :: lwA) B.pre
  have hown : s.vm.findClass y.cls = some m.cls := findClass_of_methodNamed B.named
  have hl := lv_entry av (n := maxL) hav
  rw [lg_entry_eq]
  exact walk (p, e, zR d mc ms, s, m, av.toArray, below, meth, c, va_A w s.heap.size, MQ below (QcZ g (va_A w s.heap.size) Q) av.toArray s mc ms (va_A w s.heap.size))
    ⟨B.exec, B.bytes, hml, hown, fun x hx => hts x (List.mem_cons_of_mem _ hx), hK, fun q h => Or.inr h⟩ ⟨B.returns, B.notSynchronized, rfl⟩ rfl rfl (name_of_methodNamed B.named B.method).1.symm
    s.heap [] _ hP (hD0.self (sz := s.heap.size)) va_S.rf hl
def bI (b : Bool) : Int32 := cond b 1 0
theorem bI_t : bI true = 1 := rfl
theorem bI_f : bI false = 0 := rfl
theorem bI_0 {b : Bool} (h : bI b = 0) : b = false := by cases b; rfl; exact absurd h (by decide)
theorem bI_n {b : Bool} (h : ¬ bI b = 0) : b = true := by cases b; exact absurd rfl h; rfl
theorem bI_nar (b : Bool) : narrow .boolean (.int (bI b)) = .int (bI b) := by cases b <;> rfl
theorem bI_nI (b : Bool) : bI b = nI (cond b 1 0) := by cases b <;> rfl
/-- a whole number below 2^31, one less: for -1 and up -/
def pI (x : Nat) : Int32 := nI x - 1
theorem updN (f : Nat → Nat) (i x : Nat) : upd (fun k => nI (f k)) i (nI x) = fun k => nI (va_up f i x k) := by
  funext k
  unfold upd va_up
  by_cases h : k = i
  · rw [if_pos h, if_pos h]
  · rw [if_neg h, if_neg h]
theorem updLN (f : Nat → Nat) (i x : Nat) : vp_updL (fun k => lN (f k)) i (lN x) = fun k => lN (va_up f i x k) := by
  funext k
  unfold vp_updL va_up
  by_cases h : k = i
  · rw [if_pos h, if_pos h]
  · rw [if_neg h, if_neg h]
theorem nar01 {x : Nat} (h : x ≤ 1) : vp_nar .boolean (nI x) = nI x := by
  rcases (show x = 0 ∨ x = 1 by omega) with rfl | rfl <;> rfl
theorem narb01 {x : Nat} (h : x ≤ 1) : narrow .boolean (.int (nI x)) = .int (nI x) := by
  rcases (show x = 0 ∨ x = 1 by omega) with rfl | rfl <;> rfl
theorem fit01 {x : Nat} (h : x ≤ 1) : fits .boolean (.int (nI x)) = true := by
  rcases (show x = 0 ∨ x = 1 by omega) with rfl | rfl <;> rfl
section ZN
variable {g : GC} {X : XC} {cc : ByteArray} {nL k n pc : Nat} {own : String} {ws : va_W} {lv lv' : List (Nat × Value)} {st : List Value}
theorem z_iaddN (E : Ob g X cc nL own) {a b : Nat} (hd : decode cc pc = .ok (.iadd, 1)) (K : Z g X nL k n ws lv (.int (nI (a + b)) :: st) (pc + 1)) : Z g X nL k n ws lv (.int (nI b) :: .int (nI a) :: st) pc := z_iadd E hd (z_topi (nI_add a b) K)
theorem z_imulN (E : Ob g X cc nL own) {a b : Nat} (hd : decode cc pc = .ok (.imul, 1)) (K : Z g X nL k n ws lv (.int (nI (a * b)) :: st) (pc + 1)) : Z g X nL k n ws lv (.int (nI b) :: .int (nI a) :: st) pc := z_imul E hd (z_topi (pk_mul a b) K)
theorem z_isubN (E : Ob g X cc nL own) {a b : Nat} (hd : decode cc pc = .ok (.isub, 1)) (h : b ≤ a) (K : Z g X nL k n ws lv (.int (nI (a - b)) :: st) (pc + 1)) : Z g X nL k n ws lv (.int (nI b) :: .int (nI a) :: st) pc := z_isub E hd (z_topi (pk_sub h) K)
theorem z_iincN (E : Ob g X cc nL own) {j a : Nat} (hd : decode cc pc = .ok (.iinc j 1, 3)) (i : Nat) (h : lv[i]? = some (j, .int (nI a))) (hn : j < nL) (hl' : lset j (.int (nI (a + 1))) lv = lv') (K : Z g X nL k n ws lv' st (pc + 3)) : Z g X nL k n ws lv st pc :=
  z_iinc E hd i h (nI_1 a) hn hl' K
theorem z_ialdN (E : Ob g X cc nL own) (hd : decode cc pc = .ok (.iaload, 1)) (q : Nat) {a N : Nat} {f : Nat → Nat} (he : ws[q]? = some (a, .inl (g.2.2 0, N, .inl (fun k => nI (f k))))) {i : Nat} (hi : i < N) (hN : N < 2 ^ 31) (K : Z g X nL k n ws lv (.int (nI (f i)) :: st) (pc + 1)) : Z g X nL k n ws lv (.int (nI i) :: .ref a :: st) pc :=
  z_iald E hd q he (vp_in_nI hi hN) (by rw [nI_clamp (by omega)]; exact K)
theorem z_iastN (E : Ob g X cc nL own) (hd : decode cc pc = .ok (.iastore, 1)) (q : Nat) {a N : Nat} {f : Nat → Nat} (he : ws[q]? = some (a, .inl (g.2.2 0, N, .inl (fun k => nI (f k))))) {i x : Nat} (hi : i < N) (hN : N < 2 ^ 31) {ws' : va_W} (hws : ws.set q (a, .inl (g.2.2 0, N, .inl (fun k => nI (va_up f i x k)))) = ws') (K : Z g X nL k n ws' lv st (pc + 1)) : Z g X nL k n ws lv (.int (nI x) :: .int (nI i) :: .ref a :: st) pc :=
  z_iast E hd q he (vp_in_nI hi hN) (by rw [nI_clamp (by omega), updN]; exact hws) K
theorem z_laldN (E : Ob g X cc nL own) (hd : decode cc pc = .ok (.laload, 1)) (q : Nat) {a N : Nat} {f : Nat → Nat} (he : ws[q]? = some (a, .inl (g.2.2 1, N, .inr (.inl (fun k => lN (f k)))))) {i : Nat} (hi : i < N) (hN : N < 2 ^ 31) (K : Z g X nL k n ws lv (.long (lN (f i)) :: st) (pc + 1)) : Z g X nL k n ws lv (.int (nI i) :: .ref a :: st) pc :=
  z_lald E hd q he (vp_in_nI hi hN) (by rw [nI_clamp (by omega)]; exact K)
theorem z_lastN (E : Ob g X cc nL own) (hd : decode cc pc = .ok (.lastore, 1)) (q : Nat) {a N : Nat} {f : Nat → Nat} (he : ws[q]? = some (a, .inl (g.2.2 1, N, .inr (.inl (fun k => lN (f k)))))) {i x : Nat} (hi : i < N) (hN : N < 2 ^ 31) {ws' : va_W} (hws : ws.set q (a, .inl (g.2.2 1, N, .inr (.inl (fun k => lN (va_up f i x k))))) = ws') (K : Z g X nL k n ws' lv st (pc + 1)) : Z g X nL k n ws lv (.long (lN x) :: .int (nI i) :: .ref a :: st) pc :=
  z_last E hd q he (vp_in_nI hi hN) (by rw [nI_clamp (by omega), updLN]; exact hws) K
theorem z_zaldN (E : Ob g X cc nL own) (hd : decode cc pc = .ok (.baload, 1)) (q : Nat) {a N : Nat} {f : Nat → Nat} (he : ws[q]? = some (a, .inl (g.2.2 2, N, .inl (fun k => nI (f k))))) {i : Nat} (hi : i < N) (hN : N < 2 ^ 31) (K : Z g X nL k n ws lv (.int (nI (f i)) :: st) (pc + 1)) : Z g X nL k n ws lv (.int (nI i) :: .ref a :: st) pc :=
  z_zald E hd q he (vp_in_nI hi hN) (by rw [nI_clamp (by omega)]; exact K)
theorem z_zastN (E : Ob g X cc nL own) (hd : decode cc pc = .ok (.bastore, 1)) (q : Nat) {a N : Nat} {f : Nat → Nat} (he : ws[q]? = some (a, .inl (g.2.2 2, N, .inl (fun k => nI (f k))))) {i x : Nat} (hi : i < N) (hN : N < 2 ^ 31) (hx : x ≤ 1) {ws' : va_W} (hws : ws.set q (a, .inl (g.2.2 2, N, .inl (fun k => nI (va_up f i x k)))) = ws') (K : Z g X nL k n ws' lv st (pc + 1)) : Z g X nL k n ws lv (.int (nI x) :: .int (nI i) :: .ref a :: st) pc :=
  z_zast E hd q he (vp_in_nI hi hN) (nar01 hx) (by rw [nI_clamp (by omega), updN]; exact hws) K
theorem z_ifN_eq (E : Ob g X cc nL own) {a : Nat} {off : Int} (hd : decode cc pc = .ok (.ifCond .eq off, 3)) (tgt : Nat) (ht : (pc : Int) + off = (tgt : Int)) (ha : a < 2 ^ 31) (kt : a = 0 → Z g X nL k n ws lv st tgt) (kf : a ≠ 0 → Z g X nL k n ws lv st (pc + 3)) : Z g X nL k n ws lv (.int (nI a) :: st) pc :=
  z_if_eq E hd tgt ht (fun h => kt ((nI_eq ha (by decide)).mp (h.trans nI_0.symm))) (fun h => kf (fun e => h (by rw [e]; rfl)))
theorem z_ifN_ne (E : Ob g X cc nL own) {a : Nat} {off : Int} (hd : decode cc pc = .ok (.ifCond .ne off, 3)) (tgt : Nat) (ht : (pc : Int) + off = (tgt : Int)) (ha : a < 2 ^ 31) (kt : a ≠ 0 → Z g X nL k n ws lv st tgt) (kf : a = 0 → Z g X nL k n ws lv st (pc + 3)) : Z g X nL k n ws lv (.int (nI a) :: st) pc :=
  z_if_ne E hd tgt ht (fun h => kt (fun e => h (by rw [e]; rfl))) (fun h => kf ((nI_eq ha (by decide)).mp (h.trans nI_0.symm)))
theorem z_ifN_le (E : Ob g X cc nL own) {a : Nat} {off : Int} (hd : decode cc pc = .ok (.ifCond .le off, 3)) (tgt : Nat) (ht : (pc : Int) + off = (tgt : Int)) (ha : a < 2 ^ 31) (kt : a = 0 → Z g X nL k n ws lv st tgt) (kf : a ≠ 0 → Z g X nL k n ws lv st (pc + 3)) : Z g X nL k n ws lv (.int (nI a) :: st) pc :=
  z_if_le E hd tgt ht (fun h => kt (by have := (nI_leI (a := a) (b := 0) ha (by decide)).mp h; omega)) (fun h => kf (fun e => h (by rw [e]; decide)))
theorem z_ifN_gt (E : Ob g X cc nL own) {a : Nat} {off : Int} (hd : decode cc pc = .ok (.ifCond .gt off, 3)) (tgt : Nat) (ht : (pc : Int) + off = (tgt : Int)) (ha : a < 2 ^ 31) (kt : a ≠ 0 → Z g X nL k n ws lv st tgt) (kf : a = 0 → Z g X nL k n ws lv st (pc + 3)) : Z g X nL k n ws lv (.int (nI a) :: st) pc :=
  z_if_gt E hd tgt ht (fun h => kt (fun e => by rw [e] at h; exact absurd h (by decide))) (fun h => kf (Nat.eq_zero_of_not_pos (fun e => h ((nI_ltI (a := 0) (b := a) (by decide) ha).mpr e))))
theorem z_ifN_ge (E : Ob g X cc nL own) {a : Nat} {off : Int} (hd : decode cc pc = .ok (.ifCond .ge off, 3)) (tgt : Nat) (ht : (pc : Int) + off = (tgt : Int)) (ha : a < 2 ^ 31) (kt : Z g X nL k n ws lv st tgt) : Z g X nL k n ws lv (.int (nI a) :: st) pc :=
  z_if_ge E hd tgt ht (fun _ => kt) (fun h => absurd (nI_pos' ha) h)
theorem z_ifN_lt (E : Ob g X cc nL own) {a : Nat} {off : Int} (hd : decode cc pc = .ok (.ifCond .lt off, 3)) (tgt : Nat) (ht : (pc : Int) + off = (tgt : Int)) (ha : a < 2 ^ 31) (kf : Z g X nL k n ws lv st (pc + 3)) : Z g X nL k n ws lv (.int (nI a) :: st) pc :=
  z_if_lt E hd tgt ht (fun h => absurd h (nI_pos ha)) (fun _ => kf)
theorem z_ifB_eq (E : Ob g X cc nL own) {b : Bool} {off : Int} (hd : decode cc pc = .ok (.ifCond .eq off, 3)) (tgt : Nat) (ht : (pc : Int) + off = (tgt : Int)) (kt : b = false → Z g X nL k n ws lv st tgt) (kf : b = true → Z g X nL k n ws lv st (pc + 3)) : Z g X nL k n ws lv (.int (bI b) :: st) pc :=
  z_if_eq E hd tgt ht (fun h => kt (bI_0 h)) (fun h => kf (bI_n h))
theorem z_ifB_ne (E : Ob g X cc nL own) {b : Bool} {off : Int} (hd : decode cc pc = .ok (.ifCond .ne off, 3)) (tgt : Nat) (ht : (pc : Int) + off = (tgt : Int)) (kt : b = true → Z g X nL k n ws lv st tgt) (kf : b = false → Z g X nL k n ws lv st (pc + 3)) : Z g X nL k n ws lv (.int (bI b) :: st) pc :=
  z_if_ne E hd tgt ht (fun h => kt (bI_n h)) (fun h => kf (bI_0 h))
/-- a call that runs: from the callee's world w to an end that Q allows -/
def Run (g : GC) (X : XC) (nL k n mc ms : Nat) (lv : List (Nat × Value)) (st0 rest : List Value) (pc : Nat) (av : List Value) (w : va_W) (Q : Option Value → va_W → Prop) : Prop :=
  ∀ (H : Heap) (locs : List Loc) (ls : Array Slot), va_P g.2.1 zCl w H → va_D (fun _ => True) w → lv_has ls nL lv → va_Run X.1 g.1 X.2.1 X.2.2.1 X.2.2.2.1 X.2.2.2.2.1 X.2.2.2.2.2.1 X.2.2.2.2.2.2.1 X.2.2.2.2.2.2.2.1 X.2.2.2.2.2.2.2.2.1 H locs k n mc ms (F0 X.2.2.2.2.1 pc ls st0) rest (QcZ g (va_A w H.size) Q av.toArray) (va_A w H.size)
/-- the core of a call: the callee's world w among ws at the places isC, the rest wr at isR -/
theorem z_core (E : Ob g X cc nL own) {mc ms : Nat} {w wr : va_W} {Q : Option Value → va_W → Prop} {av : List Value} {rest st0 : List Value} (isC isR : List Nat) (hC : isC.map (fun i => ws[i]?) = w.map some) (hR : isR.map (fun i => ws[i]?) = wr.map some) (hnC : va_nd isC = true) (hn : va_nd isR = true) (hdis : ∀ i ∈ isR, i ∉ isC)
    (run : Run g X nL k n mc ms lv st0 rest pc av w Q)
    (K : ∀ (v : Option Value) (w2 : va_W), Q v w2 → Z g X nL (k + mc) (n + ms) (wr ++ w2) lv (v.toList ++ rest) (pc + 3)) : Z g X nL k n ws lv st0 pc := by
  obtain ⟨p, e, R, s, m, args, below, meth, c, A, F⟩ := X
  intro H locs ls hP hD hS hl
  dsimp only [Run] at run hP hD hS ⊢
  have hPc : va_P g.2.1 zCl w H := by
    intro j q hq
    have h1 : (isC.map (fun i => ws[i]?))[j]? = some (some q) := by rw [hC, List.getElem?_map, hq]; rfl
    rw [List.getElem?_map] at h1
    cases hi : isC[j]? with
    | none => rw [hi] at h1; cases h1
    | some i => rw [hi] at h1; exact hP i q (Option.some.inj h1)
  have hA : ∀ q, s.heap.size ≤ q → A q := E.2.2.2.2.2.2
  have hFc := va_free (wc := w) hD hS hA isC hC
  have hDc : va_D (fun _ => True) w := (hD.sub isC hnC hC).weaken (fun _ _ _ _ => trivial)
  intro T hT X
  obtain ⟨v, st₀, t, T', L, h0, X', hL, e1, e2, ⟨⟨v', w2, hv, hq, hP1, hK1, hD1⟩, hz, hk⟩, stp⟩ := run H locs ls hPc hDc hl T hT X
  cases hv
  rw [h0] at hz hk
  obtain ⟨hP2, hD2⟩ := va_join hP hD isC isR hC hR hn hdis (H1 := T'.heap) (fun q h1 h2 => by rw [e1]; exact hk q h1 h2) hFc (by rw [e1]; exact hP1) hD1
  have hS2 : va_S A s.heap T'.heap (locs ++ L) := ⟨Nat.le_trans hS.1 (by rw [e1]; exact hz), fun q h1 h2 => by rw [e1, hk q (Nat.lt_of_lt_of_le h1 hS.1) (fun z => h2 (hFc q z))]; exact hS.2.1 q h1 h2, fun q hq => by
    rcases List.mem_append.mp hq with h | h
    · exact hS.2.2 q h
    · exact hFc _ (hL q h)⟩
  obtain ⟨t2, a1, b1⟩ := K v w2 hq T'.heap (locs ++ L) ls hP2 hD2 hS2 hl T' rfl X'
  exact ⟨t2, stp t2 a1, b1⟩
/-- the callee's cells put back in their places -/
def wput : va_W → List Nat → va_W → va_W
  | ws, i :: is, c :: w => wput (ws.set i c) is w
  | ws, _, _ => ws
theorem wput_get : ∀ (is : List Nat) (w ws : va_W) (k : Nat) (q : Nat × va_E), is.length = w.length → va_nd is = true → (wput ws is w)[k]? = some q → (∃ j : Nat, is[j]? = some k ∧ w[j]? = some q) ∨ (ws[k]? = some q ∧ k ∉ is)
  | [], [], ws, k, q, _, _, h => Or.inr ⟨h, List.not_mem_nil⟩
  | [], c :: w, ws, k, q, hl, _, h => by cases hl
  | i :: is, [], ws, k, q, hl, _, h => by cases hl
  | i :: is, c :: w, ws, k, q, hl, hn, h => by
    simp only [va_nd, Bool.and_eq_true, decide_eq_true_eq] at hn
    rcases wput_get is w (ws.set i c) k q (Nat.succ.inj hl) hn.2 h with ⟨j, h1, h2⟩ | ⟨h1, h2⟩
    · exact Or.inl ⟨j + 1, h1, h2⟩
    · by_cases hk : k = i
      · subst hk
        rw [List.getElem?_set] at h1
        simp only [if_true] at h1
        by_cases hb : k < ws.length
        · rw [if_pos hb] at h1
          exact Or.inl ⟨0, rfl, h1⟩
        · rw [if_neg hb] at h1
          cases h1
      · rw [List.getElem?_set, if_neg (fun e => hk e.symm)] at h1
        exact Or.inr ⟨h1, fun hm => (List.mem_cons.mp hm).elim hk h2⟩
theorem z_core2 (E : Ob g X cc nL own) {w : va_W} {Q : Option Value → va_W → Prop} {av : List Value} {rest st0 : List Value} (run : Run g X nL k n 0 0 lv st0 rest pc av w Q) (isC : List Nat) (hC : isC.map (fun i => ws[i]?) = w.map some) (hnC : va_nd isC = true)
    (K : ∀ (v : Option Value) (w2 : va_W), Q v w2 → w2.map Prod.fst = w.map Prod.fst ∧ Z g X nL k n (wput ws isC w2) lv (v.toList ++ rest) (pc + 3)) : Z g X nL k n ws lv st0 pc := by
  obtain ⟨p, e, R, s, m, args, below, meth, c, A, F⟩ := X
  intro H locs ls hP hD hS hl
  dsimp only [Run] at run hP hD hS ⊢
  have atC : ∀ (j : Nat) (q : Nat × va_E), w[j]? = some q → ∃ i, isC[j]? = some i ∧ ws[i]? = some q := by
    intro j q hq
    have h1 : (isC.map (fun i => ws[i]?))[j]? = some (some q) := by rw [hC, List.getElem?_map, hq]; rfl
    rw [List.getElem?_map] at h1
    cases hi : isC[j]? with
    | none => rw [hi] at h1; cases h1
    | some i => rw [hi] at h1; exact ⟨i, rfl, Option.some.inj h1⟩
  have hPc : va_P g.2.1 zCl w H := by
    intro j q hq
    obtain ⟨i, -, h2⟩ := atC j q hq
    exact hP i q h2
  have hA : ∀ q, s.heap.size ≤ q → A q := E.2.2.2.2.2.2
  have hFc := va_free (wc := w) hD hS hA isC hC
  have hDc : va_D (fun _ => True) w := (hD.sub isC hnC hC).weaken (fun _ _ _ _ => trivial)
  have hlen : isC.length = w.length := by have := congrArg List.length hC; simpa using this
  intro T hT X
  obtain ⟨v, st₀, t, T', L, h0, X', hL, e1, e2, ⟨⟨v', w2, hv, hq, hP1, hK1, hD1⟩, hz, hk⟩, stp⟩ := run H locs ls hPc hDc hl T hT X
  cases hv
  rw [h0] at hz hk
  obtain ⟨hfst, K⟩ := K v w2 hq
  have hlen2 : isC.length = w2.length := by rw [hlen]; have := congrArg List.length hfst; simpa using this.symm
  have old : ∀ (i : Nat) (q : Nat × va_E), (wput ws isC w2)[i]? = some q → ∃ q', ws[i]? = some q' ∧ q'.1 = q.1 := by
    intro i q hq
    rcases wput_get isC w2 ws i q hlen2 hnC hq with ⟨j, h1, h2⟩ | ⟨h1, -⟩
    · have h3 : (w2.map Prod.fst)[j]? = some q.1 := by rw [List.getElem?_map, h2]; rfl
      rw [hfst, List.getElem?_map] at h3
      cases hw : w[j]? with
      | none => rw [hw] at h3; cases h3
      | some q' =>
        rw [hw] at h3
        obtain ⟨i', h4, h5⟩ := atC j q' hw
        rw [h1] at h4
        cases h4
        exact ⟨q', h5, Option.some.inj h3⟩
    · exact ⟨q, h1, rfl⟩
  have hD2 : va_D A (wput ws isC w2) := by
    refine ⟨fun i j x y hx hy hxy => ?_, fun i x hx => ?_⟩
    · obtain ⟨x', a1, a2⟩ := old i x hx
      obtain ⟨y', b1, b2⟩ := old j y hy
      exact hD.1 i j x' y' a1 b1 (by rw [a2, b2, hxy])
    · obtain ⟨x', a1, a2⟩ := old i x hx
      rw [← a2]
      exact hD.2 i x' a1
  have hP2 : va_P g.2.1 zCl (wput ws isC w2) T'.heap := by
    intro i q hq
    rcases wput_get isC w2 ws i q hlen2 hnC hq with ⟨j, h1, h2⟩ | ⟨h1, h2⟩
    · rw [e1]
      exact hP1 j q h2
    · have hl1 := (hP i q h1).lt
      refine (hP i q h1).kept ?_
      rw [e1]
      refine hk q.1 hl1 (fun hA1 => ?_)
      rcases hA1 with ⟨j, c1, hj⟩ | hj
      · obtain ⟨i', h4, h5⟩ := atC j (q.1, c1) hj
        have := hD.1 i i' q (q.1, c1) h1 h5 rfl
        subst this
        exact h2 (List.mem_of_getElem? h4)
      · exact absurd hj (Nat.not_le.mpr hl1)
  have hS2 : va_S A s.heap T'.heap (locs ++ L) := ⟨Nat.le_trans hS.1 (by rw [e1]; exact hz), fun q h1 h2 => by rw [e1, hk q (Nat.lt_of_lt_of_le h1 hS.1) (fun z => h2 (hFc q z))]; exact hS.2.1 q h1 h2, fun q hq => by
    rcases List.mem_append.mp hq with h | h
    · exact hS.2.2 q h
    · exact hFc _ (hL q h)⟩
  obtain ⟨t2, a1, b1⟩ := K T'.heap (locs ++ L) ls hP2 hD2 hS2 hl T' rfl X'
  exact ⟨t2, stp t2 a1, b1⟩
theorem wput_same : ∀ (is : List Nat) (w ws : va_W), is.map (fun i => ws[i]?) = w.map some → wput ws is w = ws
  | [], [], ws, _ => rfl
  | [], c :: w, ws, h => by cases h
  | i :: is, [], ws, h => by cases h
  | i :: is, c :: w, ws, h => by
    have h1 : ws[i]? = some c := (List.cons.inj h).1
    have h2 : ws.set i c = ws := by
      apply List.ext_getElem?
      intro j
      rw [List.getElem?_set]
      by_cases hj : i = j
      · subst hj
        rw [if_pos rfl, h1]
        have hl : i < ws.length := by
          rcases Nat.lt_or_ge i ws.length with q | q
          · exact q
          · rw [List.getElem?_eq_none q] at h1; cases h1
        rw [if_pos hl]
      · rw [if_neg hj]
    unfold wput
    rw [h2]
    exact wput_same is w ws (List.cons.inj h).2
/-- what the tables say of a method -/
def MW (y : MethodName) (bytes : ByteArray) (maxL : Nat) (ret : Option FieldType) (np : Nat) : Prop :=
  Cond.code y bytes maxL ret ∈ lwA ∧ Cond.initialized y.cls ∈ lwA ∧ (y.cls ≠ "java/lang/invoke/MethodHandle" ∧ y.cls ≠ "java/lang/invoke/VarHandle") ∧ (parseMethodDescriptor y.desc).map (fun d => d.parameters.length) = some np ∧ maxL ≤ 21
def MWV (y : MethodName) (bytes : ByteArray) (maxL : Nat) (ret : Option FieldType) (np : Nat) : Prop := MW y bytes maxL ret np ∧ Cond.instanceMethod y ∈ lwA ∧ Cond.selects y.cls y y ∈ lwA
theorem zB {y : MethodName} {bytes : ByteArray} {maxL d mc ms np D0 K0 N0 ix : Nat} {ret : Option FieldType} (E : Ob g X cc nL own) (hX : X.2.2.1 = zR D0 K0 N0) (hm : MW y bytes maxL ret np) (hl : Cond.methodLink own ix y ∈ lwA) (hd : d + 1 ≤ D0) :
    CallB X.2.2.1 X.2.2.2.1 X.2.2.2.2.2.1 own ix y bytes maxL ret (Cond.code y bytes maxL ret :: lwA) (zR d mc ms) mc ms np := by
  refine ⟨rfl, rfl, by rw [hX]; exact hd, by rw [hX]; show 8 + (maxL + 11) + 40 * d ≤ 40 * D0; have := hm.2.2.2.2; omega, pay_in E.2.2.2.2.1 (lwA_in hm.1), List.mem_cons_self, E.2.2.2.2.1 _ hm.1, E.2.2.2.2.1 _ hm.2.1, hm.2.2.1, fun sig h => ?_, E.2.2.2.2.1 _ hl⟩
  have h2 := hm.2.2.2.1
  rw [h] at h2
  exact (Option.some.inj h2).symm
theorem zBN {y : MethodName} {bytes : ByteArray} {maxL d mc ms np D0 K0 N0 ix : Nat} {ret : Option FieldType} {host : String} (E : Ob g X cc nL own) (hX : X.2.2.1 = zR D0 K0 N0) (hm : MW y bytes maxL ret np) (hl : (own, ix, y, host) ∈ zNest) (hd : d + 1 ≤ D0) :
    va_CN X.2.2.1 X.2.2.2.1 X.2.2.2.2.2.1 own ix y host bytes maxL ret (Cond.code y bytes maxL ret :: lwA) (zR d mc ms) mc ms np := by
  refine ⟨⟨rfl, rfl, by rw [hX]; exact hd, by rw [hX]; show 8 + (maxL + 11) + 40 * d ≤ 40 * D0; have := hm.2.2.2.2; omega, pay_in E.2.2.2.2.1 (lwA_in hm.1), List.mem_cons_self⟩, E.2.2.2.2.1 _ hm.1, E.2.2.2.2.1 _ hm.2.1, hm.2.2.1, fun sig h => ?_, va_Nw.use rfl (E.2.2.2.2.2.1.2 _ hl)⟩
  have h2 := hm.2.2.2.1
  rw [h] at h2
  exact (Option.some.inj h2).symm
theorem zBl {av : List Value} {w : va_W} {sz : Nat} : FrameBlind (va_Pc av (fun U => U.heap.size = sz ∧ va_P g.2.1 zCl w U.heap ∧ zK g U ∧ va_D (fun _ => True) w)) := by
  intro a U g' mk q
  obtain ⟨q0, q1, qP, qK, qD⟩ := q
  exact ⟨q0, q1, qP, zK.moved (u := U) (U := U.calling g' mk a) rfl qK, qD⟩
theorem rV (E : Ob g X cc nL own) {D0 K0 N0 : Nat} (hX : X.2.2.1 = zR D0 K0 N0) {y : MethodName} {bytes : ByteArray} {maxL d mc ms np ix b : Nat} {ret : Option FieldType} {As rest st0 : List Value} {w : va_W} {Q : Option Value → va_W → Prop}
    (hct : Ct g y bytes maxL ret d mc ms (.ref b :: As) w Q) (hm : MWV y bytes maxL ret np) (hl : Cond.methodLink own ix y ∈ lwA) (hdg : decode cc pc = .ok (.invokevirtual ix, 3)) (hd : d + 1 ≤ D0) (hk : k + mc ≤ K0 ∧ n + ms ≤ N0) (hn : As.length = np) (hst : st0 = As.reverse ++ .ref b :: rest) (h8 : (rest.map fun v => v.category).sum ≤ 8)
    (q0 : Nat) {ci : Nat} {fs : List Value} {T : u_T} {N : Nat} (hq0 : w[q0]? = some (b, .inr (ci, fs))) (hci : zCl[ci]? = some (y.cls, T, N)) : Run g X nL k n mc ms lv st0 rest pc (.ref b :: As) w Q :=
  fun H locs ls hP hDt hl' => va_runV (C := y.cls) (As := As) (rest := rest) ⟨E.1, E.2.1, E.2.2.1, E.2.2.2.1, E.2.2.2.2.1⟩ (hct H.size) ⟨zB E hX hm.1 hl hd, E.2.2.2.2.1 _ hm.2.1, E.2.2.2.2.1 _ hm.2.2⟩ ⟨zBl, va_recv E.2.2.2.2.2.1.1 hP hci hq0, fun U hU hW => ⟨rfl, by rw [hU], by rw [hU]; exact hP, E.2.2.2.2.2.1.warm hW, hDt⟩⟩ rfl hn hl'.1 hst (lv_room h8) hdg (by rw [hX]; exact hk)
theorem rS (E : Ob g X cc nL own) {D0 K0 N0 : Nat} (hX : X.2.2.1 = zR D0 K0 N0) {y : MethodName} {bytes : ByteArray} {maxL d mc ms np ix : Nat} {ret : Option FieldType} {As rest st0 : List Value} {w : va_W} {Q : Option Value → va_W → Prop}
    (hct : Ct g y bytes maxL ret d mc ms As w Q) (hm : MW y bytes maxL ret np) (hs : Cond.static y ∈ lwA) (hl : Cond.methodLink own ix y ∈ lwA) (hdg : decode cc pc = .ok (.invokestatic ix, 3)) (hd : d + 1 ≤ D0) (hk : k + mc ≤ K0 ∧ n + ms ≤ N0) (hn : As.length = np) (hst : st0 = As.reverse ++ rest) (h8 : (rest.map fun v => v.category).sum ≤ 8)
    : Run g X nL k n mc ms lv st0 rest pc (As) w Q :=
  fun H locs ls hP hDt hl' => va_runS (As := As) (rest := rest) ⟨E.1, E.2.1, E.2.2.1, E.2.2.2.1, E.2.2.2.2.1⟩ (hct H.size) ⟨zB E hX hm hl hd, E.2.2.2.2.1 _ hs⟩ ⟨zBl, fun U hU hW => ⟨rfl, by rw [hU], by rw [hU]; exact hP, E.2.2.2.2.2.1.warm hW, hDt⟩⟩ rfl hn hl'.1 hst (lv_room h8) hdg (by rw [hX]; exact hk)
theorem rSN (E : Ob g X cc nL own) {D0 K0 N0 : Nat} (hX : X.2.2.1 = zR D0 K0 N0) {y : MethodName} {host : String} {bytes : ByteArray} {maxL d mc ms np ix : Nat} {ret : Option FieldType} {As rest st0 : List Value} {w : va_W} {Q : Option Value → va_W → Prop}
    (hct : Ct g y bytes maxL ret d mc ms As w Q) (hm : MW y bytes maxL ret np) (hs : Cond.static y ∈ lwA) (hl : (own, ix, y, host) ∈ zNest) (hdg : decode cc pc = .ok (.invokestatic ix, 3)) (hd : d + 1 ≤ D0) (hk : k + mc ≤ K0 ∧ n + ms ≤ N0) (hn : As.length = np) (hst : st0 = As.reverse ++ rest) (h8 : (rest.map fun v => v.category).sum ≤ 8)
    : Run g X nL k n mc ms lv st0 rest pc (As) w Q :=
  fun H locs ls hP hDt hl' => va_runSN (As := As) (rest := rest) ⟨E.1, E.2.1, E.2.2.1, E.2.2.2.1, E.2.2.2.2.1⟩ (hct H.size) ⟨zBN E hX hm hl hd, E.2.2.2.2.1 _ hs, trivial⟩ ⟨zBl, fun U hU hW => ⟨rfl, by rw [hU], by rw [hU]; exact hP, E.2.2.2.2.2.1.warm hW, hDt⟩⟩ rfl hn hl'.1 hst (lv_room h8) hdg (by rw [hX]; exact hk)
theorem rI (E : Ob g X cc nL own) {D0 K0 N0 : Nat} (hX : X.2.2.1 = zR D0 K0 N0) {y : MethodName} {bytes : ByteArray} {maxL d mc ms np ix b : Nat} {As rest st0 : List Value} {w : va_W} {Q : Option Value → va_W → Prop}
    (hct : Ct g y bytes maxL none d mc ms (.ref b :: As) w Q) (hm : MW y bytes maxL none np) (hi : y.name = "<init>" ∧ Cond.instanceMethod y ∈ lwA) (hl : Cond.methodLink own ix y ∈ lwA) (hdg : decode cc pc = .ok (.invokespecial ix, 3)) (hd : d + 1 ≤ D0) (hk : k + mc ≤ K0 ∧ n + ms ≤ N0) (hn : As.length = np) (hst : st0 = As.reverse ++ .ref b :: rest) (h8 : (rest.map fun v => v.category).sum ≤ 8)
    : Run g X nL k n mc ms lv st0 rest pc (.ref b :: As) w Q :=
  fun H locs ls hP hDt hl' => va_runI (As := As) (rest := rest) ⟨E.1, E.2.1, E.2.2.1, E.2.2.2.1, E.2.2.2.2.1⟩ (hct H.size) ⟨zB E hX hm hl hd, hi.1, E.2.2.2.2.1 _ hi.2⟩ ⟨zBl, fun U hU hW => ⟨rfl, by rw [hU], by rw [hU]; exact hP, E.2.2.2.2.2.1.warm hW, hDt⟩⟩ rfl hn hl'.1 hst (lv_room h8) hdg (by rw [hX]; exact hk)
theorem rIN (E : Ob g X cc nL own) {D0 K0 N0 : Nat} (hX : X.2.2.1 = zR D0 K0 N0) {y : MethodName} {host : String} {bytes : ByteArray} {maxL d mc ms np ix b : Nat} {As rest st0 : List Value} {w : va_W} {Q : Option Value → va_W → Prop}
    (hct : Ct g y bytes maxL none d mc ms (.ref b :: As) w Q) (hm : MW y bytes maxL none np) (hi : y.name = "<init>" ∧ Cond.instanceMethod y ∈ lwA) (hl : (own, ix, y, host) ∈ zNest) (hdg : decode cc pc = .ok (.invokespecial ix, 3)) (hd : d + 1 ≤ D0) (hk : k + mc ≤ K0 ∧ n + ms ≤ N0) (hn : As.length = np) (hst : st0 = As.reverse ++ .ref b :: rest) (h8 : (rest.map fun v => v.category).sum ≤ 8)
    : Run g X nL k n mc ms lv st0 rest pc (.ref b :: As) w Q :=
  fun H locs ls hP hDt hl' => va_runIN (As := As) (rest := rest) ⟨E.1, E.2.1, E.2.2.1, E.2.2.2.1, E.2.2.2.2.1⟩ (hct H.size) ⟨zBN E hX hm hl hd, hi.1, E.2.2.2.2.1 _ hi.2⟩ ⟨zBl, fun U hU hW => ⟨rfl, by rw [hU], by rw [hU]; exact hP, E.2.2.2.2.2.1.warm hW, hDt⟩⟩ rfl hn hl'.1 hst (lv_room h8) hdg (by rw [hX]; exact hk)
/-- ends of contracts -/
def QI (P : Int32 → va_W → Prop) : Option Value → va_W → Prop := fun v w => ∃ r : Int32, v = some (.int r) ∧ P r w
def QL (P : Int64 → va_W → Prop) : Option Value → va_W → Prop := fun v w => ∃ r : Int64, v = some (.long r) ∧ P r w
def QV (P : va_W → Prop) : Option Value → va_W → Prop := fun v w => v = none ∧ P w
def DI (r : Int32) (w : va_W) : Option Value → va_W → Prop := fun v w2 => v = some (.int r) ∧ w2 = w
def DL (r : Int64) (w : va_W) : Option Value → va_W → Prop := fun v w2 => v = some (.long r) ∧ w2 = w
def DV (w : va_W) : Option Value → va_W → Prop := fun v w2 => v = none ∧ w2 = w
theorem k_DI {r : Int32} {w wr ws2 : va_W} {rest : List Value} (h : wr ++ w = ws2) (K : Z g X nL k n ws2 lv (.int r :: rest) (pc + 3)) : ∀ (v : Option Value) (w2 : va_W), DI r w v w2 → Z g X nL (k + 0) (n + 0) (wr ++ w2) lv (v.toList ++ rest) (pc + 3) := by
  intro v w2 hq
  obtain ⟨rfl, rfl⟩ := hq
  rw [h]
  exact K
theorem k_DL {r : Int64} {w wr ws2 : va_W} {rest : List Value} (h : wr ++ w = ws2) (K : Z g X nL k n ws2 lv (.long r :: rest) (pc + 3)) : ∀ (v : Option Value) (w2 : va_W), DL r w v w2 → Z g X nL (k + 0) (n + 0) (wr ++ w2) lv (v.toList ++ rest) (pc + 3) := by
  intro v w2 hq
  obtain ⟨rfl, rfl⟩ := hq
  rw [h]
  exact K
theorem k_DV {w wr ws2 : va_W} {rest : List Value} (h : wr ++ w = ws2) (K : Z g X nL k n ws2 lv rest (pc + 3)) : ∀ (v : Option Value) (w2 : va_W), DV w v w2 → Z g X nL (k + 0) (n + 0) (wr ++ w2) lv (v.toList ++ rest) (pc + 3) := by
  intro v w2 hq
  obtain ⟨rfl, rfl⟩ := hq
  rw [h]
  exact K
theorem k_QI {P : Int32 → va_W → Prop} {wr : va_W} {rest : List Value} (K : ∀ (r : Int32) (w2 : va_W), P r w2 → Z g X nL k n (wr ++ w2) lv (.int r :: rest) (pc + 3)) : ∀ (v : Option Value) (w2 : va_W), QI P v w2 → Z g X nL (k + 0) (n + 0) (wr ++ w2) lv (v.toList ++ rest) (pc + 3) := by
  intro v w2 hq
  obtain ⟨r, rfl, h⟩ := hq
  exact K r w2 h
theorem k_QL {P : Int64 → va_W → Prop} {wr : va_W} {rest : List Value} (K : ∀ (r : Int64) (w2 : va_W), P r w2 → Z g X nL k n (wr ++ w2) lv (.long r :: rest) (pc + 3)) : ∀ (v : Option Value) (w2 : va_W), QL P v w2 → Z g X nL (k + 0) (n + 0) (wr ++ w2) lv (v.toList ++ rest) (pc + 3) := by
  intro v w2 hq
  obtain ⟨r, rfl, h⟩ := hq
  exact K r w2 h
theorem k_QV {P : va_W → Prop} {wr : va_W} {rest : List Value} (K : ∀ (w2 : va_W), P w2 → Z g X nL k n (wr ++ w2) lv rest (pc + 3)) : ∀ (v : Option Value) (w2 : va_W), QV P v w2 → Z g X nL (k + 0) (n + 0) (wr ++ w2) lv (v.toList ++ rest) (pc + 3) := by
  intro v w2 hq
  obtain ⟨rfl, h⟩ := hq
  exact K w2 h
/-- another order of the world -/
theorem z_perm {ws' : va_W} (ps : List Nat) (hp : ps.map (fun i => ws[i]?) = ws'.map some) (hn : va_nd ps = true) (K : Z g X nL k n ws' lv st pc) : Z g X nL k n ws lv st pc := fun H locs ls hP hD hS hl => K H locs ls (fun j q hq => by
    have h1 : (ps.map (fun i => ws[i]?))[j]? = some (some q) := by rw [hp, List.getElem?_map, hq]; rfl
    rw [List.getElem?_map] at h1
    cases hi : ps[j]? with
    | none => rw [hi] at h1; cases h1
    | some i => rw [hi] at h1; exact hP i q (Option.some.inj h1)) (hD.sub ps hn hp) hS hl
/-- all places of a world -/
theorem rng_map {α : Type} (w : List α) : (List.range w.length).map (fun i => w[i]?) = w.map some := by
  apply List.ext_getElem
  · simp
  · intro i h1 h2
    simp at h1
    simp [h1]
theorem va_nd_of : ∀ l : List Nat, l.Nodup → va_nd l = true
  | [], _ => rfl
  | a :: l, h => by
    have h1 := List.nodup_cons.mp h
    simp only [va_nd, Bool.and_eq_true, decide_eq_true_eq]
    exact ⟨h1.1, va_nd_of l h1.2⟩
theorem va_nd_range (n : Nat) : va_nd (List.range n) = true := va_nd_of _ List.nodup_range
/-- an answer, nothing written -/
theorem z_ro (E : Ob g X cc nL own) {w : va_W} {r : Int32} {av rest st0 : List Value} (run : Run g X nL k n 0 0 lv st0 rest pc av w (DI r w)) (isC : List Nat) (hC : isC.map (fun i => ws[i]?) = w.map some) (hnC : va_nd isC = true) (K : Z g X nL k n ws lv (.int r :: rest) (pc + 3)) : Z g X nL k n ws lv st0 pc :=
  z_core2 E run isC hC hnC (fun v w2 hq => by
    obtain ⟨rfl, rfl⟩ := hq
    refine ⟨rfl, ?_⟩
    rw [wput_same isC w2 ws hC]
    exact K)
theorem z_rol (E : Ob g X cc nL own) {w : va_W} {r : Int64} {av rest st0 : List Value} (run : Run g X nL k n 0 0 lv st0 rest pc av w (DL r w)) (isC : List Nat) (hC : isC.map (fun i => ws[i]?) = w.map some) (hnC : va_nd isC = true) (K : Z g X nL k n ws lv (.long r :: rest) (pc + 3)) : Z g X nL k n ws lv st0 pc :=
  z_core2 E run isC hC hnC (fun v w2 hq => by
    obtain ⟨rfl, rfl⟩ := hq
    refine ⟨rfl, ?_⟩
    rw [wput_same isC w2 ws hC]
    exact K)
/-- an answer and a new world, both known -/
theorem z_rw (E : Ob g X cc nL own) {w w2 ws2 : va_W} {r : Int32} {av rest st0 : List Value} (run : Run g X nL k n 0 0 lv st0 rest pc av w (DI r w2)) (isC : List Nat) (hC : isC.map (fun i => ws[i]?) = w.map some) (hnC : va_nd isC = true) (hf : w2.map Prod.fst = w.map Prod.fst) (hp : wput ws isC w2 = ws2) (K : Z g X nL k n ws2 lv (.int r :: rest) (pc + 3)) : Z g X nL k n ws lv st0 pc :=
  z_core2 E run isC hC hnC (fun v w3 hq => by
    obtain ⟨rfl, rfl⟩ := hq
    refine ⟨hf, ?_⟩
    rw [hp]
    exact K)
theorem z_rwv (E : Ob g X cc nL own) {w w2 ws2 : va_W} {av rest st0 : List Value} (run : Run g X nL k n 0 0 lv st0 rest pc av w (DV w2)) (isC : List Nat) (hC : isC.map (fun i => ws[i]?) = w.map some) (hnC : va_nd isC = true) (hf : w2.map Prod.fst = w.map Prod.fst) (hp : wput ws isC w2 = ws2) (K : Z g X nL k n ws2 lv rest (pc + 3)) : Z g X nL k n ws lv st0 pc :=
  z_core2 E run isC hC hnC (fun v w3 hq => by
    obtain ⟨rfl, rfl⟩ := hq
    refine ⟨hf, ?_⟩
    rw [hp]
    exact K)
/-- the same where the callee's world is all the world -/
theorem z_ro0 (E : Ob g X cc nL own) {r : Int32} {av rest st0 : List Value} (run : Run g X nL k n 0 0 lv st0 rest pc av ws (DI r ws)) (K : Z g X nL k n ws lv (.int r :: rest) (pc + 3)) : Z g X nL k n ws lv st0 pc :=
  z_ro E run (List.range ws.length) (rng_map ws) (va_nd_range _) K
theorem wput_all : ∀ (pre w w2 : va_W), w.length = w2.length → wput (pre ++ w) ((List.range w.length).map (fun i => pre.length + i)) w2 = pre ++ w2
  | pre, [], [], _ => rfl
  | pre, [], c :: w, h => by cases h
  | pre, c :: w, [], h => by cases h
  | pre, c :: w, d :: w2, h => by
    rw [List.length_cons, List.range_succ_eq_map, List.map_cons, List.map_map]
    unfold wput
    have h1 : (pre ++ c :: w).set (pre.length + 0) d = (pre ++ [d]) ++ w := by simp
    rw [h1]
    have h2 := wput_all (pre ++ [d]) w w2 (Nat.succ.inj h)
    have h3 : (List.range w.length).map ((fun i => pre.length + i) ∘ Nat.succ) = (List.range w.length).map (fun i => (pre ++ [d]).length + i) := by
      apply List.map_congr_left
      intro a _
      simp only [Function.comp, List.length_append, List.length_cons, List.length_nil]
      omega
    rw [h3, h2]
    simp
theorem wput0 (w w2 : va_W) (h : w2.map Prod.fst = w.map Prod.fst) : wput w (List.range w.length) w2 = w2 := by
  have hl : w.length = w2.length := by have := congrArg List.length h; simpa using this.symm
  have h1 := wput_all [] w w2 hl
  simpa using h1
theorem z_rw0 (E : Ob g X cc nL own) {w2 : va_W} {r : Int32} {av rest st0 : List Value} (run : Run g X nL k n 0 0 lv st0 rest pc av ws (DI r w2)) (hf : w2.map Prod.fst = ws.map Prod.fst) (K : Z g X nL k n w2 lv (.int r :: rest) (pc + 3)) : Z g X nL k n ws lv st0 pc :=
  z_rw E run (List.range ws.length) (rng_map ws) (va_nd_range _) hf (wput0 ws w2 hf) K
theorem z_rwv0 (E : Ob g X cc nL own) {w2 : va_W} {av rest st0 : List Value} (run : Run g X nL k n 0 0 lv st0 rest pc av ws (DV w2)) (hf : w2.map Prod.fst = ws.map Prod.fst) (K : Z g X nL k n w2 lv rest (pc + 3)) : Z g X nL k n ws lv st0 pc :=
  z_rwv E run (List.range ws.length) (rng_map ws) (va_nd_range _) hf (wput0 ws w2 hf) K
/-- a static method without a world -/
theorem z_se (E : Ob g X cc nL own) {r : Int32} {av rest st0 : List Value} (run : Run g X nL k n 0 0 lv st0 rest pc av [] (DI r [])) (K : Z g X nL k n ws lv (.int r :: rest) (pc + 3)) : Z g X nL k n ws lv st0 pc := z_ro E run [] rfl rfl K
theorem z_sel (E : Ob g X cc nL own) {r : Int64} {av rest st0 : List Value} (run : Run g X nL k n 0 0 lv st0 rest pc av [] (DL r [])) (K : Z g X nL k n ws lv (.long r :: rest) (pc + 3)) : Z g X nL k n ws lv st0 pc := z_rol E run [] rfl rfl K
/-- an answer and a world of which something is known -/
theorem z_q (E : Ob g X cc nL own) {w : va_W} {P : Int32 → va_W → Prop} {av rest st0 : List Value} (run : Run g X nL k n 0 0 lv st0 rest pc av w (QI P)) (isC : List Nat) (hC : isC.map (fun i => ws[i]?) = w.map some) (hnC : va_nd isC = true) (K : ∀ (r : Int32) (w2 : va_W), P r w2 → w2.map Prod.fst = w.map Prod.fst ∧ Z g X nL k n (wput ws isC w2) lv (.int r :: rest) (pc + 3)) : Z g X nL k n ws lv st0 pc :=
  z_core2 E run isC hC hnC (fun v w3 hq => by
    obtain ⟨r, rfl, h⟩ := hq
    exact K r w3 h)
theorem z_qv (E : Ob g X cc nL own) {w : va_W} {P : va_W → Prop} {av rest st0 : List Value} (run : Run g X nL k n 0 0 lv st0 rest pc av w (QV P)) (isC : List Nat) (hC : isC.map (fun i => ws[i]?) = w.map some) (hnC : va_nd isC = true) (K : ∀ (w2 : va_W), P w2 → w2.map Prod.fst = w.map Prod.fst ∧ Z g X nL k n (wput ws isC w2) lv rest (pc + 3)) : Z g X nL k n ws lv st0 pc :=
  z_core2 E run isC hC hnC (fun v w3 hq => by
    obtain ⟨rfl, h⟩ := hq
    exact K w3 h)
theorem z_q0 (E : Ob g X cc nL own) {P : Int32 → va_W → Prop} {av rest st0 : List Value} (run : Run g X nL k n 0 0 lv st0 rest pc av ws (QI P)) (K : ∀ (r : Int32) (w2 : va_W), P r w2 → w2.map Prod.fst = ws.map Prod.fst ∧ Z g X nL k n w2 lv (.int r :: rest) (pc + 3)) : Z g X nL k n ws lv st0 pc :=
  z_q E run (List.range ws.length) (rng_map ws) (va_nd_range _) (fun r w2 h => ⟨(K r w2 h).1, by rw [wput0 ws w2 (K r w2 h).1]; exact (K r w2 h).2⟩)
theorem z_qv0 (E : Ob g X cc nL own) {P : va_W → Prop} {av rest st0 : List Value} (run : Run g X nL k n 0 0 lv st0 rest pc av ws (QV P)) (K : ∀ (w2 : va_W), P w2 → w2.map Prod.fst = ws.map Prod.fst ∧ Z g X nL k n w2 lv rest (pc + 3)) : Z g X nL k n ws lv st0 pc :=
  z_qv E run (List.range ws.length) (rng_map ws) (va_nd_range _) (fun w2 h => ⟨(K w2 h).1, by rw [wput0 ws w2 (K w2 h).1]; exact (K w2 h).2⟩)
theorem bz1 {b : Bool} (h : b = true) : some (Value.int (nI 1)) = some (.int (bI b)) := by rw [h]; rfl
theorem bz0 {b : Bool} (h : b = false) : some (Value.int (nI 0)) = some (.int (bI b)) := by rw [h]; rfl
end ZN
theorem zn_and (a b : Nat) : nI a &&& nI b = nI (a &&& b) := by
  apply Int32.toBitVec_inj.1
  show BitVec.ofNat 32 a &&& BitVec.ofNat 32 b = BitVec.ofNat 32 (a &&& b)
  apply BitVec.eq_of_getLsbD_eq
  intro i hi
  simp [hi]
theorem zn_or (a b : Nat) : nI a ||| nI b = nI (a ||| b) := by
  apply Int32.toBitVec_inj.1
  show BitVec.ofNat 32 a ||| BitVec.ofNat 32 b = BitVec.ofNat 32 (a ||| b)
  apply BitVec.eq_of_getLsbD_eq
  intro i hi
  simp [hi]
theorem zn_xor (a b : Nat) : nI a ^^^ nI b = nI (a ^^^ b) := by
  apply Int32.toBitVec_inj.1
  show BitVec.ofNat 32 a ^^^ BitVec.ofNat 32 b = BitVec.ofNat 32 (a ^^^ b)
  apply BitVec.eq_of_getLsbD_eq
  intro i hi
  simp [hi]
theorem zn_sl : ∀ n, n < 32 → ((nI n &&& 31).toBitVec.smod 32).toNat = n := by decide +kernel
theorem zn_shl (a : Nat) {b : Nat} (h : b < 32) : nI a <<< (nI b &&& 31) = nI (a <<< b) := by
  apply Int32.toBitVec_inj.1
  apply BitVec.eq_of_toNat_eq
  rw [pk_shl (nI a) (nI b &&& 31) b (zn_sl b h)]
  show (BitVec.ofNat 32 a).toNat * 2 ^ b % 2 ^ 32 = (BitVec.ofNat 32 (a <<< b)).toNat
  rw [BitVec.toNat_ofNat, BitVec.toNat_ofNat, Nat.shiftLeft_eq, Nat.mod_mul_mod]
theorem zn_shr {a b : Nat} (ha : a < 2 ^ 31) (h : b < 32) : nI a >>> (nI b &&& 31) = nI (a >>> b) := by
  rw [pk_shrN ha (nI b &&& 31) b (zn_sl b h), Nat.shiftRight_eq_div_pow]
section ZM
variable {g : GC} {X : XC} {cc : ByteArray} {nL k n pc : Nat} {own : String} {ws : va_W} {lv lv' : List (Nat × Value)} {st : List Value}
theorem z_iandN (E : Ob g X cc nL own) {a b : Nat} (hd : decode cc pc = .ok (.iand, 1)) (K : Z g X nL k n ws lv (.int (nI (a &&& b)) :: st) (pc + 1)) : Z g X nL k n ws lv (.int (nI b) :: .int (nI a) :: st) pc := z_iand E hd (z_topi (zn_and a b) K)
theorem z_iorN (E : Ob g X cc nL own) {a b : Nat} (hd : decode cc pc = .ok (.ior, 1)) (K : Z g X nL k n ws lv (.int (nI (a ||| b)) :: st) (pc + 1)) : Z g X nL k n ws lv (.int (nI b) :: .int (nI a) :: st) pc := z_ior E hd (z_topi (zn_or a b) K)
theorem z_ixorN (E : Ob g X cc nL own) {a b : Nat} (hd : decode cc pc = .ok (.ixor, 1)) (K : Z g X nL k n ws lv (.int (nI (a ^^^ b)) :: st) (pc + 1)) : Z g X nL k n ws lv (.int (nI b) :: .int (nI a) :: st) pc := z_ixor E hd (z_topi (zn_xor a b) K)
theorem z_ishlN (E : Ob g X cc nL own) {a b : Nat} (hd : decode cc pc = .ok (.ishl, 1)) (hb : b < 32) (K : Z g X nL k n ws lv (.int (nI (a <<< b)) :: st) (pc + 1)) : Z g X nL k n ws lv (.int (nI b) :: .int (nI a) :: st) pc := z_ishl E hd (z_topi (zn_shl a hb) K)
theorem z_ishrN (E : Ob g X cc nL own) {a b : Nat} (hd : decode cc pc = .ok (.ishr, 1)) (ha : a < 2 ^ 31) (hb : b < 32) (K : Z g X nL k n ws lv (.int (nI (a >>> b)) :: st) (pc + 1)) : Z g X nL k n ws lv (.int (nI b) :: .int (nI a) :: st) pc := z_ishr E hd (z_topi (zn_shr ha hb) K)
theorem z_idivN (E : Ob g X cc nL own) {a b : Nat} (hd : decode cc pc = .ok (.idiv, 1)) (ha : a < 2 ^ 31) (h0 : 0 < b) (hb : b < 2 ^ 31) (K : Z g X nL k n ws lv (.int (nI (a / b)) :: st) (pc + 1)) : Z g X nL k n ws lv (.int (nI b) :: .int (nI a) :: st) pc := z_idiv E hd (nI_ne0 h0 hb) (z_topi (pk_div ha h0 hb) K)
theorem z_laddN (E : Ob g X cc nL own) {a b : Nat} (hd : decode cc pc = .ok (.ladd, 1)) (K : Z g X nL k n ws lv (.long (lN (a + b)) :: st) (pc + 1)) : Z g X nL k n ws lv (.long (lN b) :: .long (lN a) :: st) pc := z_ladd E hd (z_topl (lN_add a b) K)
theorem z_lmulN (E : Ob g X cc nL own) {a b : Nat} (hd : decode cc pc = .ok (.lmul, 1)) (K : Z g X nL k n ws lv (.long (lN (a * b)) :: st) (pc + 1)) : Z g X nL k n ws lv (.long (lN b) :: .long (lN a) :: st) pc := z_lmul E hd (z_topl (lN_mul a b) K)
theorem lN_ne0 {b : Nat} (h0 : 0 < b) (hb : b < 2 ^ 63) : ¬ lN b = 0 := fun h => by have := (pk_lEQ hb (show (0 : Nat) < 2 ^ 63 by decide)).mp h; omega
theorem z_ldivN (E : Ob g X cc nL own) {a b : Nat} (hd : decode cc pc = .ok (.ldiv, 1)) (ha : a < 2 ^ 63) (h0 : 0 < b) (hb : b < 2 ^ 63) (K : Z g X nL k n ws lv (.long (lN (a / b)) :: st) (pc + 1)) : Z g X nL k n ws lv (.long (lN b) :: .long (lN a) :: st) pc := z_ldiv E hd (lN_ne0 h0 hb) (z_topl (pk_lDiv ha h0 hb) K)
theorem z_lremN (E : Ob g X cc nL own) {a b : Nat} (hd : decode cc pc = .ok (.lrem, 1)) (ha : a < 2 ^ 63) (h0 : 0 < b) (hb : b < 2 ^ 63) (K : Z g X nL k n ws lv (.long (lN (a % b)) :: st) (pc + 1)) : Z g X nL k n ws lv (.long (lN b) :: .long (lN a) :: st) pc := z_lrem E hd (lN_ne0 h0 hb) (z_topl (pk_lRem ha h0 hb) K)
theorem z_ifL_eq (E : Ob g X cc nL own) {a b : Nat} {off : Int} (hd : decode cc pc = .ok (.ifCond .eq off, 3)) (tgt : Nat) (ht : (pc : Int) + off = (tgt : Int)) (ha : a < 2 ^ 63) (hb : b < 2 ^ 63) (kt : a = b → Z g X nL k n ws lv st tgt) (kf : a ≠ b → Z g X nL k n ws lv st (pc + 3)) : Z g X nL k n ws lv (.int (lg_cmp (lN a) (lN b)) :: st) pc :=
  z_if_eq E hd tgt ht (fun h => kt ((pk_lEQ ha hb).mp ((lg_cmp_eq _ _).mp h))) (fun h => kf (fun e => h ((lg_cmp_eq _ _).mpr (by rw [e]))))
theorem z_ifL_le (E : Ob g X cc nL own) {a b : Nat} {off : Int} (hd : decode cc pc = .ok (.ifCond .le off, 3)) (tgt : Nat) (ht : (pc : Int) + off = (tgt : Int)) (ha : a < 2 ^ 63) (hb : b < 2 ^ 63) (kt : a ≤ b → Z g X nL k n ws lv st tgt) (kf : b < a → Z g X nL k n ws lv st (pc + 3)) : Z g X nL k n ws lv (.int (lg_cmp (lN a) (lN b)) :: st) pc :=
  z_if_le E hd tgt ht (fun h => kt ((pk_lLE ha hb).mp ((lg_cmp_le _ _).mp h))) (fun h => kf (Nat.not_le.mp (fun e => h ((lg_cmp_le _ _).mpr ((pk_lLE ha hb).mpr e)))))
theorem z_ifL_ne (E : Ob g X cc nL own) {a b : Nat} {off : Int} (hd : decode cc pc = .ok (.ifCond .ne off, 3)) (tgt : Nat) (ht : (pc : Int) + off = (tgt : Int)) (ha : a < 2 ^ 63) (hb : b < 2 ^ 63) (kt : a ≠ b → Z g X nL k n ws lv st tgt) (kf : a = b → Z g X nL k n ws lv st (pc + 3)) : Z g X nL k n ws lv (.int (lg_cmp (lN a) (lN b)) :: st) pc :=
  z_if_ne E hd tgt ht (fun h => kt (fun e => h ((lg_cmp_eq _ _).mpr (by rw [e])))) (fun h => kf ((pk_lEQ ha hb).mp ((lg_cmp_eq _ _).mp h)))
end ZM
/-- the state of an object: its numbers by their slots, its arrays by the slots that hold them -/
abbrev NS : Type := (Nat → Nat) × (Nat → Nat → Nat)
def sF (T : NS) (k v : Nat) : NS := (va_up T.1 k v, T.2)
def sA (T : NS) (k : Nat) (f : Nat → Nat) : NS := (T.1, va_up T.2 k f)
/-- all numbers small -/
def sm (T : NS) : Prop := (∀ k, T.1 k < 2 ^ 31) ∧ ∀ i k, T.2 i k < 2 ^ 31
theorem sm.F {T : NS} (h : sm T) {k v : Nat} (hv : v < 2 ^ 31) : sm (sF T k v) := ⟨fun j => by unfold sF va_up; dsimp only; split; exact hv; exact h.1 j, h.2⟩
theorem sm.A {T : NS} (h : sm T) {k : Nat} {f : Nat → Nat} (hf : ∀ j, f j < 2 ^ 31) : sm (sA T k f) := ⟨h.1, fun i j => by unfold sA va_up; dsimp only; split; exact hf j; exact h.2 i j⟩
theorem up_lt {f : Nat → Nat} {i x M : Nat} (hf : ∀ j, f j < M) (hx : x < M) : ∀ j, va_up f i x j < M := fun j => by unfold va_up; split; exact hx; exact hf j
def cm : Nat → Int32
  | 0 => -9
  | k + 1 => nI k
def pm : Nat → Int32
  | 0 => -1
  | k + 1 => nI k
def tk : Nat → Int32
  | 0 => -3
  | 1 => -2
  | 2 => -1
  | k + 3 => nI k
theorem arrV_cg {c : ClassId} {n : Nat} {f f' : Nat → Value} (h : ∀ j, j < n → f j = f' j) : arrV c n f = arrV c n f' := by
  unfold arrV
  congr 1
  congr 1
  funext j
  exact h j.val j.isLt
theorem cpyN (f h : Nat → Nat) (sp dp n : Nat) : va_cpy (fun k => nI (f k)) (fun k => nI (h k)) sp dp n = fun k => nI (va_cpy f h sp dp n k) := by
  funext k
  unfold va_cpy
  by_cases q : dp ≤ k ∧ k < dp + n
  · rw [if_pos q, if_pos q]
  · rw [if_neg q, if_neg q]
theorem cpyJ (f h : Nat → Nat) (sp dp n : Nat) : va_cpy (fun k => lN (f k)) (fun k => lN (h k)) sp dp n = fun k => lN (va_cpy f h sp dp n k) := by
  funext k
  unfold va_cpy
  by_cases q : dp ≤ k ∧ k < dp + n
  · rw [if_pos q, if_pos q]
  · rw [if_neg q, if_neg q]
section ZC
variable {g : GC} {X : XC} {cc : ByteArray} {nL k n pc : Nat} {own : String} {ws : va_W} {lv lv' : List (Nat × Value)} {st : List Value}
/-- an array, as far as it goes -/
theorem z_arrN {c : ClassId} (q : Nat) {a N : Nat} {f f' : Nat → Nat} (he : ws[q]? = some (a, .inl (c, N, .inl (fun k => nI (f k))))) (hff : ∀ j, j < N → f j = f' j) {ws' : va_W} (hws : ws.set q (a, .inl (c, N, .inl (fun k => nI (f' k)))) = ws') (K : Z g X nL k n ws' lv st pc) : Z g X nL k n ws lv st pc := fun H locs ls hP hD hS hl => by
  subst hws
  refine K H locs ls (hP.set hD he ?_ (fun _ _ => rfl)) (hD.set he) hS hl
  have h1 := hP q _ he
  show H[a]? = some (arrV c N (fun j => .int (nI (f' j))))
  rw [arrV_cg (f' := fun j => .int (nI (f j))) (fun j hj => by rw [hff j hj])]
  exact h1
theorem z_arrJ {c : ClassId} (q : Nat) {a N : Nat} {f f' : Nat → Nat} (he : ws[q]? = some (a, .inl (c, N, .inr (.inl (fun k => lN (f k)))))) (hff : ∀ j, j < N → f j = f' j) {ws' : va_W} (hws : ws.set q (a, .inl (c, N, .inr (.inl (fun k => lN (f' k))))) = ws') (K : Z g X nL k n ws' lv st pc) : Z g X nL k n ws lv st pc := fun H locs ls hP hD hS hl => by
  subst hws
  refine K H locs ls (hP.set hD he ?_ (fun _ _ => rfl)) (hD.set he) hS hl
  have h1 := hP q _ he
  show H[a]? = some (arrV c N (fun j => .long (lN (f' j))))
  rw [arrV_cg (f' := fun j => .long (lN (f j))) (fun j hj => by rw [hff j hj])]
  exact h1
theorem z_copyN (E : Ob g X cc nL own) {D0 K0 N0 : Nat} (hX : X.2.2.1 = zR D0 K0 N0) {ix : Nat} (hd : decode cc pc = .ok (.invokestatic ix, 3)) (hl : Cond.methodLink own ix arraycopyName ∈ lwA) (hw : Cond.native arraycopyName ∈ lwA ∧ Cond.static arraycopyName ∈ lwA ∧ Cond.initialized "java/lang/System" ∈ lwA) (hD0 : 1 ≤ D0) (h8 : (st.map fun v => v.category).sum ≤ 8)
    (q0 q1 : Nat) {a0 a1 n0 n1 : Nat} {f h : Nat → Nat} (ha0 : ws[q0]? = some (a0, .inl (g.2.2 0, n0, .inl (fun k => nI (f k))))) (ha1 : ws[q1]? = some (a1, .inl (g.2.2 0, n1, .inl (fun k => nI (h k))))) {sp dp m : Nat} (h1 : sp + m ≤ n0) (h2 : dp + m ≤ n1) (hn0 : n0 < 2 ^ 31) (hn1 : n1 < 2 ^ 31) {ws' : va_W} (hws : ws.set q1 (a1, .inl (g.2.2 0, n1, .inl (fun k => nI (va_cpy f h sp dp m k)))) = ws') (K : Z g X nL k n ws' lv st (pc + 3)) :
    Z g X nL k n ws lv (.int (nI m) :: .int (nI dp) :: .ref a1 :: .int (nI sp) :: .ref a0 :: st) pc := fun H locs ls hP hD hS hlv => by
  have c1 : (nI sp).toNatClampNeg = sp := nI_clamp (by omega)
  have c2 : (nI dp).toNatClampNeg = dp := nI_clamp (by omega)
  have c3 : (nI m).toNatClampNeg = m := nI_clamp (by omega)
  refine va_copyi E.1 E.2.1 (E.2.2.1.trans hlv.1.symm) E.2.2.2.1 (E.2.2.2.2.1 _ hl) (E.2.2.2.2.1 _ hw.1) (E.2.2.2.2.1 _ hw.2.1) (E.2.2.2.2.1 _ hw.2.2) E.2.2.2.2.2.1.1 hP hD hS q0 q1 0 0 (ty := .int) ha0 ha1 rfl rfl rfl (nI_pos (by omega)) (nI_pos (by omega)) (nI_pos (by omega)) (by rw [c1, c3]; exact h1) (by rw [c2, c3]; exact h2) (fun _ _ => rfl) (by rw [hX]; exact hD0) (by rw [hX]; show _ + (7 + 11) ≤ 40 * D0; omega) hd (fun H1 locs1 p1 p2 p3 => ?_)
  rw [c1, c2, c3, cpyN, hws] at p1 p2
  exact K H1 locs1 ls p1 p2 p3 hlv
theorem z_copyJ (E : Ob g X cc nL own) {D0 K0 N0 : Nat} (hX : X.2.2.1 = zR D0 K0 N0) {ix : Nat} (hd : decode cc pc = .ok (.invokestatic ix, 3)) (hl : Cond.methodLink own ix arraycopyName ∈ lwA) (hw : Cond.native arraycopyName ∈ lwA ∧ Cond.static arraycopyName ∈ lwA ∧ Cond.initialized "java/lang/System" ∈ lwA) (hD0 : 1 ≤ D0) (h8 : (st.map fun v => v.category).sum ≤ 8)
    (q0 q1 : Nat) {a0 a1 n0 n1 : Nat} {f h : Nat → Nat} (ha0 : ws[q0]? = some (a0, .inl (g.2.2 1, n0, .inr (.inl (fun k => lN (f k)))))) (ha1 : ws[q1]? = some (a1, .inl (g.2.2 1, n1, .inr (.inl (fun k => lN (h k)))))) {sp dp m : Nat} (h1 : sp + m ≤ n0) (h2 : dp + m ≤ n1) (hn0 : n0 < 2 ^ 31) (hn1 : n1 < 2 ^ 31) {ws' : va_W} (hws : ws.set q1 (a1, .inl (g.2.2 1, n1, .inr (.inl (fun k => lN (va_cpy f h sp dp m k))))) = ws') (K : Z g X nL k n ws' lv st (pc + 3)) :
    Z g X nL k n ws lv (.int (nI m) :: .int (nI dp) :: .ref a1 :: .int (nI sp) :: .ref a0 :: st) pc := fun H locs ls hP hD hS hlv => by
  have c1 : (nI sp).toNatClampNeg = sp := nI_clamp (by omega)
  have c2 : (nI dp).toNatClampNeg = dp := nI_clamp (by omega)
  have c3 : (nI m).toNatClampNeg = m := nI_clamp (by omega)
  refine va_copyl E.1 E.2.1 (E.2.2.1.trans hlv.1.symm) E.2.2.2.1 (E.2.2.2.2.1 _ hl) (E.2.2.2.2.1 _ hw.1) (E.2.2.2.2.1 _ hw.2.1) (E.2.2.2.2.1 _ hw.2.2) E.2.2.2.2.2.1.1 hP hD hS q0 q1 1 1 (ty := .long) ha0 ha1 rfl rfl rfl (nI_pos (by omega)) (nI_pos (by omega)) (nI_pos (by omega)) (by rw [c1, c3]; exact h1) (by rw [c2, c3]; exact h2) (fun _ _ => rfl) (by rw [hX]; exact hD0) (by rw [hX]; show _ + (7 + 11) ≤ 40 * D0; omega) hd (fun H1 locs1 p1 p2 p3 => ?_)
  rw [c1, c2, c3, cpyJ, hws] at p1 p2
  exact K H1 locs1 ls p1 p2 p3 hlv
end ZC
theorem cpy_all {f h : Nat → Nat} {n j : Nat} (hj : j < n) : va_cpy f h 0 0 n j = f j := by
  unfold va_cpy
  rw [if_pos ⟨Nat.zero_le _, by omega⟩]
  simp
theorem z_aaldN {g : GC} {X : XC} {cc : ByteArray} {nL k n pc : Nat} {own : String} {ws : va_W} {lv : List (Nat × Value)} {st : List Value} (E : Ob g X cc nL own) (hd : decode cc pc = .ok (.aaload, 1)) (q : Nat) {a N : Nat} {b : Nat → Nat} (he : ws[q]? = some (a, .inl (g.2.2 3, N, .inr (.inr (.inr (.inr (fun i => some (b i)))))))) {i : Nat} (hi : i < N) (hN : N < 2 ^ 31) (K : Z g X nL k n ws lv (.ref (b i) :: st) (pc + 1)) : Z g X nL k n ws lv (.int (nI i) :: .ref a :: st) pc :=
  z_aald E hd q he (vp_in_nI hi hN) (by rw [nI_clamp (by omega)]; exact K)
end
section
theorem inA0 : ∀ w ∈ u_ws RX0 TX0 4, w ∈ lwA := by
  intro w hw
  obtain ⟨k, hk, rfl⟩ := List.mem_map.mp hw
  have hk := List.mem_range.mp hk
  rcases (show k = 0 ∨ k = 1 ∨ k = 2 ∨ k = 3 by omega) with rfl | rfl | rfl | rfl
  · exact lwA_mem (tb_1 (List.mem_of_getElem? (i := 221) rfl)) rfl
  · exact lwA_mem (tb_1 (List.mem_of_getElem? (i := 223) rfl)) rfl
  · exact lwA_mem (tb_1 (List.mem_of_getElem? (i := 225) rfl)) rfl
  · exact lwA_mem (tb_1 (List.mem_of_getElem? (i := 227) rfl)) rfl
theorem inA1 : ∀ w ∈ u_ws RX1 TX1 3, w ∈ lwA := by
  intro w hw
  obtain ⟨k, hk, rfl⟩ := List.mem_map.mp hw
  have hk := List.mem_range.mp hk
  rcases (show k = 0 ∨ k = 1 ∨ k = 2 by omega) with rfl | rfl | rfl
  · exact lwA_mem (tb_1 (List.mem_of_getElem? (i := 164) rfl)) rfl
  · exact lwA_mem (tb_1 (List.mem_of_getElem? (i := 166) rfl)) rfl
  · exact lwA_mem (tb_1 (List.mem_of_getElem? (i := 168) rfl)) rfl
theorem inA2 : ∀ w ∈ u_ws RX2 TX2 6, w ∈ lwA := by
  intro w hw
  obtain ⟨k, hk, rfl⟩ := List.mem_map.mp hw
  have hk := List.mem_range.mp hk
  rcases (show k = 0 ∨ k = 1 ∨ k = 2 ∨ k = 3 ∨ k = 4 ∨ k = 5 by omega) with rfl | rfl | rfl | rfl | rfl | rfl
  · exact lwA_mem (tb_1 (List.mem_of_getElem? (i := 139) rfl)) rfl
  · exact lwA_mem (tb_1 (List.mem_of_getElem? (i := 141) rfl)) rfl
  · exact lwA_mem (tb_1 (List.mem_of_getElem? (i := 143) rfl)) rfl
  · exact lwA_mem (tb_1 (List.mem_of_getElem? (i := 145) rfl)) rfl
  · exact lwA_mem (tb_1 (List.mem_of_getElem? (i := 147) rfl)) rfl
  · exact lwA_mem (tb_1 (List.mem_of_getElem? (i := 149) rfl)) rfl
theorem inA3 : ∀ w ∈ u_ws RX3 TX3 9, w ∈ lwA := by
  intro w hw
  obtain ⟨k, hk, rfl⟩ := List.mem_map.mp hw
  have hk := List.mem_range.mp hk
  rcases (show k = 0 ∨ k = 1 ∨ k = 2 ∨ k = 3 ∨ k = 4 ∨ k = 5 ∨ k = 6 ∨ k = 7 ∨ k = 8 by omega) with rfl | rfl | rfl | rfl | rfl | rfl | rfl | rfl | rfl
  · exact lwA_mem (tb_1 (List.mem_of_getElem? (i := 35) rfl)) rfl
  · exact lwA_mem (tb_1 (List.mem_of_getElem? (i := 37) rfl)) rfl
  · exact lwA_mem (tb_1 (List.mem_of_getElem? (i := 39) rfl)) rfl
  · exact lwA_mem (tb_1 (List.mem_of_getElem? (i := 41) rfl)) rfl
  · exact lwA_mem (tb_1 (List.mem_of_getElem? (i := 43) rfl)) rfl
  · exact lwA_mem (tb_1 (List.mem_of_getElem? (i := 45) rfl)) rfl
  · exact lwA_mem (tb_1 (List.mem_of_getElem? (i := 47) rfl)) rfl
  · exact lwA_mem (tb_1 (List.mem_of_getElem? (i := 49) rfl)) rfl
  · exact lwA_mem (tb_1 (List.mem_of_getElem? (i := 51) rfl)) rfl
theorem inA4 : ∀ w ∈ u_ws RX4 TX4 10, w ∈ lwA := by
  intro w hw
  obtain ⟨k, hk, rfl⟩ := List.mem_map.mp hw
  have hk := List.mem_range.mp hk
  rcases (show k = 0 ∨ k = 1 ∨ k = 2 ∨ k = 3 ∨ k = 4 ∨ k = 5 ∨ k = 6 ∨ k = 7 ∨ k = 8 ∨ k = 9 by omega) with rfl | rfl | rfl | rfl | rfl | rfl | rfl | rfl | rfl | rfl
  · exact lwA_mem (tb_1 (List.mem_of_getElem? (i := 98) rfl)) rfl
  · exact lwA_mem (tb_1 (List.mem_of_getElem? (i := 100) rfl)) rfl
  · exact lwA_mem (tb_1 (List.mem_of_getElem? (i := 102) rfl)) rfl
  · exact lwA_mem (tb_1 (List.mem_of_getElem? (i := 104) rfl)) rfl
  · exact lwA_mem (tb_1 (List.mem_of_getElem? (i := 106) rfl)) rfl
  · exact lwA_mem (tb_1 (List.mem_of_getElem? (i := 108) rfl)) rfl
  · exact lwA_mem (tb_1 (List.mem_of_getElem? (i := 110) rfl)) rfl
  · exact lwA_mem (tb_1 (List.mem_of_getElem? (i := 112) rfl)) rfl
  · exact lwA_mem (tb_1 (List.mem_of_getElem? (i := 114) rfl)) rfl
  · exact lwA_mem (tb_1 (List.mem_of_getElem? (i := 116) rfl)) rfl
theorem inA5 : ∀ w ∈ u_ws RX5 TX5 9, w ∈ lwA := by
  intro w hw
  obtain ⟨k, hk, rfl⟩ := List.mem_map.mp hw
  have hk := List.mem_range.mp hk
  rcases (show k = 0 ∨ k = 1 ∨ k = 2 ∨ k = 3 ∨ k = 4 ∨ k = 5 ∨ k = 6 ∨ k = 7 ∨ k = 8 by omega) with rfl | rfl | rfl | rfl | rfl | rfl | rfl | rfl | rfl
  · exact lwA_mem (tb_1 (List.mem_of_getElem? (i := 191) rfl)) rfl
  · exact lwA_mem (tb_1 (List.mem_of_getElem? (i := 193) rfl)) rfl
  · exact lwA_mem (tb_1 (List.mem_of_getElem? (i := 195) rfl)) rfl
  · exact lwA_mem (tb_1 (List.mem_of_getElem? (i := 197) rfl)) rfl
  · exact lwA_mem (tb_1 (List.mem_of_getElem? (i := 199) rfl)) rfl
  · exact lwA_mem (tb_1 (List.mem_of_getElem? (i := 201) rfl)) rfl
  · exact lwA_mem (tb_1 (List.mem_of_getElem? (i := 203) rfl)) rfl
  · exact lwA_mem (tb_1 (List.mem_of_getElem? (i := 205) rfl)) rfl
  · exact lwA_mem (tb_1 (List.mem_of_getElem? (i := 207) rfl)) rfl
theorem inA6 : ∀ w ∈ u_ws RX6 TX6 15, w ∈ lwA := by
  intro w hw
  obtain ⟨k, hk, rfl⟩ := List.mem_map.mp hw
  have hk := List.mem_range.mp hk
  rcases (show k = 0 ∨ k = 1 ∨ k = 2 ∨ k = 3 ∨ k = 4 ∨ k = 5 ∨ k = 6 ∨ k = 7 ∨ k = 8 ∨ k = 9 ∨ k = 10 ∨ k = 11 ∨ k = 12 ∨ k = 13 ∨ k = 14 by omega) with rfl | rfl | rfl | rfl | rfl | rfl | rfl | rfl | rfl | rfl | rfl | rfl | rfl | rfl | rfl
  · exact lwA_mem (tb_2 (List.mem_of_getElem? (i := 10) rfl)) rfl
  · exact lwA_mem (tb_2 (List.mem_of_getElem? (i := 12) rfl)) rfl
  · exact lwA_mem (tb_2 (List.mem_of_getElem? (i := 14) rfl)) rfl
  · exact lwA_mem (tb_2 (List.mem_of_getElem? (i := 16) rfl)) rfl
  · exact lwA_mem (tb_2 (List.mem_of_getElem? (i := 18) rfl)) rfl
  · exact lwA_mem (tb_2 (List.mem_of_getElem? (i := 20) rfl)) rfl
  · exact lwA_mem (tb_2 (List.mem_of_getElem? (i := 22) rfl)) rfl
  · exact lwA_mem (tb_2 (List.mem_of_getElem? (i := 24) rfl)) rfl
  · exact lwA_mem (tb_2 (List.mem_of_getElem? (i := 26) rfl)) rfl
  · exact lwA_mem (tb_2 (List.mem_of_getElem? (i := 28) rfl)) rfl
  · exact lwA_mem (tb_2 (List.mem_of_getElem? (i := 30) rfl)) rfl
  · exact lwA_mem (tb_2 (List.mem_of_getElem? (i := 32) rfl)) rfl
  · exact lwA_mem (tb_2 (List.mem_of_getElem? (i := 34) rfl)) rfl
  · exact lwA_mem (tb_2 (List.mem_of_getElem? (i := 36) rfl)) rfl
  · exact lwA_mem (tb_2 (List.mem_of_getElem? (i := 38) rfl)) rfl
theorem inA7 : ∀ w ∈ u_ws RX7 TX7 31, w ∈ lwA := by
  intro w hw
  obtain ⟨k, hk, rfl⟩ := List.mem_map.mp hw
  have hk := List.mem_range.mp hk
  rcases (show k = 0 ∨ k = 1 ∨ k = 2 ∨ k = 3 ∨ k = 4 ∨ k = 5 ∨ k = 6 ∨ k = 7 ∨ k = 8 ∨ k = 9 ∨ k = 10 ∨ k = 11 ∨ k = 12 ∨ k = 13 ∨ k = 14 ∨ k = 15 ∨ k = 16 ∨ k = 17 ∨ k = 18 ∨ k = 19 ∨ k = 20 ∨ k = 21 ∨ k = 22 ∨ k = 23 ∨ k = 24 ∨ k = 25 ∨ k = 26 ∨ k = 27 ∨ k = 28 ∨ k = 29 ∨ k = 30 by omega) with rfl | rfl | rfl | rfl | rfl | rfl | rfl | rfl | rfl | rfl | rfl | rfl | rfl | rfl | rfl | rfl | rfl | rfl | rfl | rfl | rfl | rfl | rfl | rfl | rfl | rfl | rfl | rfl | rfl | rfl | rfl
  · exact lwA_mem (tb_4 (List.mem_of_getElem? (i := 27) rfl)) rfl
  · exact lwA_mem (tb_4 (List.mem_of_getElem? (i := 29) rfl)) rfl
  · exact lwA_mem (tb_4 (List.mem_of_getElem? (i := 31) rfl)) rfl
  · exact lwA_mem (tb_4 (List.mem_of_getElem? (i := 33) rfl)) rfl
  · exact lwA_mem (tb_4 (List.mem_of_getElem? (i := 35) rfl)) rfl
  · exact lwA_mem (tb_4 (List.mem_of_getElem? (i := 37) rfl)) rfl
  · exact lwA_mem (tb_4 (List.mem_of_getElem? (i := 39) rfl)) rfl
  · exact lwA_mem (tb_4 (List.mem_of_getElem? (i := 41) rfl)) rfl
  · exact lwA_mem (tb_4 (List.mem_of_getElem? (i := 43) rfl)) rfl
  · exact lwA_mem (tb_4 (List.mem_of_getElem? (i := 45) rfl)) rfl
  · exact lwA_mem (tb_4 (List.mem_of_getElem? (i := 47) rfl)) rfl
  · exact lwA_mem (tb_4 (List.mem_of_getElem? (i := 49) rfl)) rfl
  · exact lwA_mem (tb_4 (List.mem_of_getElem? (i := 51) rfl)) rfl
  · exact lwA_mem (tb_4 (List.mem_of_getElem? (i := 53) rfl)) rfl
  · exact lwA_mem (tb_4 (List.mem_of_getElem? (i := 55) rfl)) rfl
  · exact lwA_mem (tb_4 (List.mem_of_getElem? (i := 57) rfl)) rfl
  · exact lwA_mem (tb_4 (List.mem_of_getElem? (i := 59) rfl)) rfl
  · exact lwA_mem (tb_4 (List.mem_of_getElem? (i := 61) rfl)) rfl
  · exact lwA_mem (tb_4 (List.mem_of_getElem? (i := 63) rfl)) rfl
  · exact lwA_mem (tb_4 (List.mem_of_getElem? (i := 65) rfl)) rfl
  · exact lwA_mem (tb_4 (List.mem_of_getElem? (i := 67) rfl)) rfl
  · exact lwA_mem (tb_4 (List.mem_of_getElem? (i := 69) rfl)) rfl
  · exact lwA_mem (tb_4 (List.mem_of_getElem? (i := 71) rfl)) rfl
  · exact lwA_mem (tb_4 (List.mem_of_getElem? (i := 73) rfl)) rfl
  · exact lwA_mem (tb_4 (List.mem_of_getElem? (i := 75) rfl)) rfl
  · exact lwA_mem (tb_4 (List.mem_of_getElem? (i := 77) rfl)) rfl
  · exact lwA_mem (tb_4 (List.mem_of_getElem? (i := 79) rfl)) rfl
  · exact lwA_mem (tb_4 (List.mem_of_getElem? (i := 81) rfl)) rfl
  · exact lwA_mem (tb_4 (List.mem_of_getElem? (i := 83) rfl)) rfl
  · exact lwA_mem (tb_4 (List.mem_of_getElem? (i := 85) rfl)) rfl
  · exact lwA_mem (tb_4 (List.mem_of_getElem? (i := 87) rfl)) rfl
theorem ini_L : Cond.initialized RL ∈ lwA := lwA_mem (tb_1 (List.mem_of_getElem? (i := 0) rfl)) rfl
theorem ini_X6 : Cond.initialized RX6 ∈ lwA := lwA_mem (tb_1 (List.mem_of_getElem? (i := 1) rfl)) rfl
theorem ini_X3 : Cond.initialized RX3 ∈ lwA := lwA_mem (tb_1 (List.mem_of_getElem? (i := 2) rfl)) rfl
theorem ini_X4 : Cond.initialized RX4 ∈ lwA := lwA_mem (tb_1 (List.mem_of_getElem? (i := 3) rfl)) rfl
theorem ini_X2 : Cond.initialized RX2 ∈ lwA := lwA_mem (tb_1 (List.mem_of_getElem? (i := 4) rfl)) rfl
theorem ini_X1 : Cond.initialized RX1 ∈ lwA := lwA_mem (tb_1 (List.mem_of_getElem? (i := 5) rfl)) rfl
theorem ini_X5 : Cond.initialized RX5 ∈ lwA := lwA_mem (tb_1 (List.mem_of_getElem? (i := 6) rfl)) rfl
theorem ini_X0 : Cond.initialized RX0 ∈ lwA := lwA_mem (tb_1 (List.mem_of_getElem? (i := 7) rfl)) rfl
theorem ini_X7 : Cond.initialized RX7 ∈ lwA := lwA_mem (tb_1 (List.mem_of_getElem? (i := 8) rfl)) rfl
theorem ini_J10 : Cond.initialized RJ10 ∈ lwA := lwA_mem (tb_1 (List.mem_of_getElem? (i := 9) rfl)) rfl
theorem ini_J9 : Cond.initialized RJ9 ∈ lwA := lwA_mem (tb_1 (List.mem_of_getElem? (i := 10) rfl)) rfl
theorem ini_J6 : Cond.initialized RJ6 ∈ lwA := lwA_mem (tb_1 (List.mem_of_getElem? (i := 11) rfl)) rfl
theorem fl_X6_10 : Cond.fieldLink RX6 10 RX6 (TX6 0).2.1 (TX6 0).2.2.1 ∈ lwA := lwA_mem (tb_1 (List.mem_of_getElem? (i := 235) rfl)) rfl
theorem gt_X6_10 {g : GC} {X : XC} {cc : ByteArray} {nL k n pc : Nat} {ws : va_W} {lv : List (Nat × Value)} {st : List Value} (E : Ob g X cc nL RX6) (hd : decode cc pc = .ok (.getfield 10, 3)) (q : Nat) {a : Nat} {fs : List Value} (he : ws[q]? = some (a, .inr (6, fs))) {v : Value} (hv : fs[0]? = some v) (K : Z g X nL k n ws lv (v :: st) (pc + 3)) : Z g X nL k n ws lv (.ref a :: st) pc := z_get E rfl inA6 0 (by decide) rfl fl_X6_10 hd q he hv K
theorem fl_X6_19 : Cond.fieldLink RX6 19 RX6 (TX6 1).2.1 (TX6 1).2.2.1 ∈ lwA := lwA_mem (tb_1 (List.mem_of_getElem? (i := 236) rfl)) rfl
theorem gt_X6_19 {g : GC} {X : XC} {cc : ByteArray} {nL k n pc : Nat} {ws : va_W} {lv : List (Nat × Value)} {st : List Value} (E : Ob g X cc nL RX6) (hd : decode cc pc = .ok (.getfield 19, 3)) (q : Nat) {a : Nat} {fs : List Value} (he : ws[q]? = some (a, .inr (6, fs))) {v : Value} (hv : fs[1]? = some v) (K : Z g X nL k n ws lv (v :: st) (pc + 3)) : Z g X nL k n ws lv (.ref a :: st) pc := z_get E rfl inA6 1 (by decide) rfl fl_X6_19 hd q he hv K
theorem pt_X6_19 {g : GC} {X : XC} {cc : ByteArray} {nL k n pc : Nat} {ws : va_W} {lv : List (Nat × Value)} {st : List Value} (E : Ob g X cc nL RX6) (hd : decode cc pc = .ok (.putfield 19, 3)) (q : Nat) {a : Nat} {fs : List Value} (he : ws[q]? = some (a, .inr (6, fs))) (hl : 1 < fs.length) {x : Nat} {ws' : va_W} (hws : ws.set q (a, .inr (6, fs.set 1 (.ref x))) = ws') (K : Z g X nL k n ws' lv st (pc + 3)) : Z g X nL k n ws lv (.ref x :: .ref a :: st) pc := z_put E tyX6 rfl inA6 tyX6_ok nmX6 1 (by decide) rfl fl_X6_19 rfl hd q he hl rfl rfl hws K
theorem fl_X6_23 : Cond.fieldLink RX6 23 RX6 (TX6 2).2.1 (TX6 2).2.2.1 ∈ lwA := lwA_mem (tb_1 (List.mem_of_getElem? (i := 237) rfl)) rfl
theorem gt_X6_23 {g : GC} {X : XC} {cc : ByteArray} {nL k n pc : Nat} {ws : va_W} {lv : List (Nat × Value)} {st : List Value} (E : Ob g X cc nL RX6) (hd : decode cc pc = .ok (.getfield 23, 3)) (q : Nat) {a : Nat} {fs : List Value} (he : ws[q]? = some (a, .inr (6, fs))) {v : Value} (hv : fs[2]? = some v) (K : Z g X nL k n ws lv (v :: st) (pc + 3)) : Z g X nL k n ws lv (.ref a :: st) pc := z_get E rfl inA6 2 (by decide) rfl fl_X6_23 hd q he hv K
theorem pt_X6_23 {g : GC} {X : XC} {cc : ByteArray} {nL k n pc : Nat} {ws : va_W} {lv : List (Nat × Value)} {st : List Value} (E : Ob g X cc nL RX6) (hd : decode cc pc = .ok (.putfield 23, 3)) (q : Nat) {a : Nat} {fs : List Value} (he : ws[q]? = some (a, .inr (6, fs))) (hl : 2 < fs.length) {x : Nat} {ws' : va_W} (hws : ws.set q (a, .inr (6, fs.set 2 (.ref x))) = ws') (K : Z g X nL k n ws' lv st (pc + 3)) : Z g X nL k n ws lv (.ref x :: .ref a :: st) pc := z_put E tyX6 rfl inA6 tyX6_ok nmX6 2 (by decide) rfl fl_X6_23 rfl hd q he hl rfl rfl hws K
theorem fl_X6_29 : Cond.fieldLink RX6 29 RX6 (TX6 3).2.1 (TX6 3).2.2.1 ∈ lwA := lwA_mem (tb_1 (List.mem_of_getElem? (i := 238) rfl)) rfl
theorem gt_X6_29 {g : GC} {X : XC} {cc : ByteArray} {nL k n pc : Nat} {ws : va_W} {lv : List (Nat × Value)} {st : List Value} (E : Ob g X cc nL RX6) (hd : decode cc pc = .ok (.getfield 29, 3)) (q : Nat) {a : Nat} {fs : List Value} (he : ws[q]? = some (a, .inr (6, fs))) {v : Value} (hv : fs[3]? = some v) (K : Z g X nL k n ws lv (v :: st) (pc + 3)) : Z g X nL k n ws lv (.ref a :: st) pc := z_get E rfl inA6 3 (by decide) rfl fl_X6_29 hd q he hv K
theorem fl_X6_36 : Cond.fieldLink RX6 36 RX6 (TX6 4).2.1 (TX6 4).2.2.1 ∈ lwA := lwA_mem (tb_1 (List.mem_of_getElem? (i := 239) rfl)) rfl
theorem gt_X6_36 {g : GC} {X : XC} {cc : ByteArray} {nL k n pc : Nat} {ws : va_W} {lv : List (Nat × Value)} {st : List Value} (E : Ob g X cc nL RX6) (hd : decode cc pc = .ok (.getfield 36, 3)) (q : Nat) {a : Nat} {fs : List Value} (he : ws[q]? = some (a, .inr (6, fs))) {v : Value} (hv : fs[4]? = some v) (K : Z g X nL k n ws lv (v :: st) (pc + 3)) : Z g X nL k n ws lv (.ref a :: st) pc := z_get E rfl inA6 4 (by decide) rfl fl_X6_36 hd q he hv K
theorem fl_X6_43 : Cond.fieldLink RX6 43 RX6 (TX6 5).2.1 (TX6 5).2.2.1 ∈ lwA := lwA_mem (tb_2 (List.mem_of_getElem? (i := 0) rfl)) rfl
theorem gt_X6_43 {g : GC} {X : XC} {cc : ByteArray} {nL k n pc : Nat} {ws : va_W} {lv : List (Nat × Value)} {st : List Value} (E : Ob g X cc nL RX6) (hd : decode cc pc = .ok (.getfield 43, 3)) (q : Nat) {a : Nat} {fs : List Value} (he : ws[q]? = some (a, .inr (6, fs))) {v : Value} (hv : fs[5]? = some v) (K : Z g X nL k n ws lv (v :: st) (pc + 3)) : Z g X nL k n ws lv (.ref a :: st) pc := z_get E rfl inA6 5 (by decide) rfl fl_X6_43 hd q he hv K
theorem fl_X6_50 : Cond.fieldLink RX6 50 RX6 (TX6 6).2.1 (TX6 6).2.2.1 ∈ lwA := lwA_mem (tb_2 (List.mem_of_getElem? (i := 1) rfl)) rfl
theorem gt_X6_50 {g : GC} {X : XC} {cc : ByteArray} {nL k n pc : Nat} {ws : va_W} {lv : List (Nat × Value)} {st : List Value} (E : Ob g X cc nL RX6) (hd : decode cc pc = .ok (.getfield 50, 3)) (q : Nat) {a : Nat} {fs : List Value} (he : ws[q]? = some (a, .inr (6, fs))) {v : Value} (hv : fs[6]? = some v) (K : Z g X nL k n ws lv (v :: st) (pc + 3)) : Z g X nL k n ws lv (.ref a :: st) pc := z_get E rfl inA6 6 (by decide) rfl fl_X6_50 hd q he hv K
theorem fl_X6_54 : Cond.fieldLink RX6 54 RX6 (TX6 7).2.1 (TX6 7).2.2.1 ∈ lwA := lwA_mem (tb_2 (List.mem_of_getElem? (i := 2) rfl)) rfl
theorem gt_X6_54 {g : GC} {X : XC} {cc : ByteArray} {nL k n pc : Nat} {ws : va_W} {lv : List (Nat × Value)} {st : List Value} (E : Ob g X cc nL RX6) (hd : decode cc pc = .ok (.getfield 54, 3)) (q : Nat) {a : Nat} {fs : List Value} (he : ws[q]? = some (a, .inr (6, fs))) {v : Value} (hv : fs[7]? = some v) (K : Z g X nL k n ws lv (v :: st) (pc + 3)) : Z g X nL k n ws lv (.ref a :: st) pc := z_get E rfl inA6 7 (by decide) rfl fl_X6_54 hd q he hv K
theorem fl_X6_58 : Cond.fieldLink RX6 58 RX6 (TX6 9).2.1 (TX6 9).2.2.1 ∈ lwA := lwA_mem (tb_2 (List.mem_of_getElem? (i := 4) rfl)) rfl
theorem gt_X6_58 {g : GC} {X : XC} {cc : ByteArray} {nL k n pc : Nat} {ws : va_W} {lv : List (Nat × Value)} {st : List Value} (E : Ob g X cc nL RX6) (hd : decode cc pc = .ok (.getfield 58, 3)) (q : Nat) {a : Nat} {fs : List Value} (he : ws[q]? = some (a, .inr (6, fs))) {v : Value} (hv : fs[9]? = some v) (K : Z g X nL k n ws lv (v :: st) (pc + 3)) : Z g X nL k n ws lv (.ref a :: st) pc := z_get E rfl inA6 9 (by decide) rfl fl_X6_58 hd q he hv K
theorem fl_X6_61 : Cond.fieldLink RX6 61 RX6 (TX6 10).2.1 (TX6 10).2.2.1 ∈ lwA := lwA_mem (tb_2 (List.mem_of_getElem? (i := 5) rfl)) rfl
theorem gt_X6_61 {g : GC} {X : XC} {cc : ByteArray} {nL k n pc : Nat} {ws : va_W} {lv : List (Nat × Value)} {st : List Value} (E : Ob g X cc nL RX6) (hd : decode cc pc = .ok (.getfield 61, 3)) (q : Nat) {a : Nat} {fs : List Value} (he : ws[q]? = some (a, .inr (6, fs))) {v : Value} (hv : fs[10]? = some v) (K : Z g X nL k n ws lv (v :: st) (pc + 3)) : Z g X nL k n ws lv (.ref a :: st) pc := z_get E rfl inA6 10 (by decide) rfl fl_X6_61 hd q he hv K
theorem fl_X6_64 : Cond.fieldLink RX6 64 RX6 (TX6 12).2.1 (TX6 12).2.2.1 ∈ lwA := lwA_mem (tb_2 (List.mem_of_getElem? (i := 7) rfl)) rfl
theorem gt_X6_64 {g : GC} {X : XC} {cc : ByteArray} {nL k n pc : Nat} {ws : va_W} {lv : List (Nat × Value)} {st : List Value} (E : Ob g X cc nL RX6) (hd : decode cc pc = .ok (.getfield 64, 3)) (q : Nat) {a : Nat} {fs : List Value} (he : ws[q]? = some (a, .inr (6, fs))) {v : Value} (hv : fs[12]? = some v) (K : Z g X nL k n ws lv (v :: st) (pc + 3)) : Z g X nL k n ws lv (.ref a :: st) pc := z_get E rfl inA6 12 (by decide) rfl fl_X6_64 hd q he hv K
theorem fl_X6_68 : Cond.fieldLink RX6 68 RX6 (TX6 13).2.1 (TX6 13).2.2.1 ∈ lwA := lwA_mem (tb_2 (List.mem_of_getElem? (i := 8) rfl)) rfl
theorem gt_X6_68 {g : GC} {X : XC} {cc : ByteArray} {nL k n pc : Nat} {ws : va_W} {lv : List (Nat × Value)} {st : List Value} (E : Ob g X cc nL RX6) (hd : decode cc pc = .ok (.getfield 68, 3)) (q : Nat) {a : Nat} {fs : List Value} (he : ws[q]? = some (a, .inr (6, fs))) {v : Value} (hv : fs[13]? = some v) (K : Z g X nL k n ws lv (v :: st) (pc + 3)) : Z g X nL k n ws lv (.ref a :: st) pc := z_get E rfl inA6 13 (by decide) rfl fl_X6_68 hd q he hv K
theorem fl_X6_72 : Cond.fieldLink RX6 72 RX4 (TX4 2).2.1 (TX4 2).2.2.1 ∈ lwA := lwA_mem (tb_1 (List.mem_of_getElem? (i := 74) rfl)) rfl
theorem gt_X6_72 {g : GC} {X : XC} {cc : ByteArray} {nL k n pc : Nat} {ws : va_W} {lv : List (Nat × Value)} {st : List Value} (E : Ob g X cc nL RX6) (hd : decode cc pc = .ok (.getfield 72, 3)) (q : Nat) {a : Nat} {fs : List Value} (he : ws[q]? = some (a, .inr (4, fs))) {v : Value} (hv : fs[2]? = some v) (K : Z g X nL k n ws lv (v :: st) (pc + 3)) : Z g X nL k n ws lv (.ref a :: st) pc := z_get E rfl inA4 2 (by decide) rfl fl_X6_72 hd q he hv K
theorem pt_X6_72 {g : GC} {X : XC} {cc : ByteArray} {nL k n pc : Nat} {ws : va_W} {lv : List (Nat × Value)} {st : List Value} (E : Ob g X cc nL RX6) (hd : decode cc pc = .ok (.putfield 72, 3)) (q : Nat) {a : Nat} {fs : List Value} (he : ws[q]? = some (a, .inr (4, fs))) (hl : 2 < fs.length) {x : Int32} {ws' : va_W} (hws : ws.set q (a, .inr (4, fs.set 2 (.int x))) = ws') (K : Z g X nL k n ws' lv st (pc + 3)) : Z g X nL k n ws lv (.int x :: .ref a :: st) pc := z_put E tyX4 rfl inA4 tyX4_ok nmX4 2 (by decide) rfl fl_X6_72 rfl hd q he hl rfl rfl hws K
theorem fl_X6_105 : Cond.fieldLink RX6 105 RX4 (TX4 6).2.1 (TX4 6).2.2.1 ∈ lwA := lwA_mem (tb_1 (List.mem_of_getElem? (i := 88) rfl)) rfl
theorem gt_X6_105 {g : GC} {X : XC} {cc : ByteArray} {nL k n pc : Nat} {ws : va_W} {lv : List (Nat × Value)} {st : List Value} (E : Ob g X cc nL RX6) (hd : decode cc pc = .ok (.getfield 105, 3)) (q : Nat) {a : Nat} {fs : List Value} (he : ws[q]? = some (a, .inr (4, fs))) {v : Value} (hv : fs[6]? = some v) (K : Z g X nL k n ws lv (v :: st) (pc + 3)) : Z g X nL k n ws lv (.ref a :: st) pc := z_get E rfl inA4 6 (by decide) rfl fl_X6_105 hd q he hv K
theorem fl_X6_108 : Cond.fieldLink RX6 108 RX4 (TX4 7).2.1 (TX4 7).2.2.1 ∈ lwA := lwA_mem (tb_1 (List.mem_of_getElem? (i := 91) rfl)) rfl
theorem gt_X6_108 {g : GC} {X : XC} {cc : ByteArray} {nL k n pc : Nat} {ws : va_W} {lv : List (Nat × Value)} {st : List Value} (E : Ob g X cc nL RX6) (hd : decode cc pc = .ok (.getfield 108, 3)) (q : Nat) {a : Nat} {fs : List Value} (he : ws[q]? = some (a, .inr (4, fs))) {v : Value} (hv : fs[7]? = some v) (K : Z g X nL k n ws lv (v :: st) (pc + 3)) : Z g X nL k n ws lv (.ref a :: st) pc := z_get E rfl inA4 7 (by decide) rfl fl_X6_108 hd q he hv K
theorem fl_X6_115 : Cond.fieldLink RX6 115 RX2 (TX2 5).2.1 (TX2 5).2.2.1 ∈ lwA := lwA_mem (tb_1 (List.mem_of_getElem? (i := 138) rfl)) rfl
theorem gt_X6_115 {g : GC} {X : XC} {cc : ByteArray} {nL k n pc : Nat} {ws : va_W} {lv : List (Nat × Value)} {st : List Value} (E : Ob g X cc nL RX6) (hd : decode cc pc = .ok (.getfield 115, 3)) (q : Nat) {a : Nat} {fs : List Value} (he : ws[q]? = some (a, .inr (2, fs))) {v : Value} (hv : fs[5]? = some v) (K : Z g X nL k n ws lv (v :: st) (pc + 3)) : Z g X nL k n ws lv (.ref a :: st) pc := z_get E rfl inA2 5 (by decide) rfl fl_X6_115 hd q he hv K
theorem fl_X6_121 : Cond.fieldLink RX6 121 RX4 (TX4 9).2.1 (TX4 9).2.2.1 ∈ lwA := lwA_mem (tb_1 (List.mem_of_getElem? (i := 97) rfl)) rfl
theorem gt_X6_121 {g : GC} {X : XC} {cc : ByteArray} {nL k n pc : Nat} {ws : va_W} {lv : List (Nat × Value)} {st : List Value} (E : Ob g X cc nL RX6) (hd : decode cc pc = .ok (.getfield 121, 3)) (q : Nat) {a : Nat} {fs : List Value} (he : ws[q]? = some (a, .inr (4, fs))) {v : Value} (hv : fs[9]? = some v) (K : Z g X nL k n ws lv (v :: st) (pc + 3)) : Z g X nL k n ws lv (.ref a :: st) pc := z_get E rfl inA4 9 (by decide) rfl fl_X6_121 hd q he hv K
theorem fl_X6_133 : Cond.fieldLink RX6 133 RX2 (TX2 0).2.1 (TX2 0).2.2.1 ∈ lwA := lwA_mem (tb_1 (List.mem_of_getElem? (i := 126) rfl)) rfl
theorem gt_X6_133 {g : GC} {X : XC} {cc : ByteArray} {nL k n pc : Nat} {ws : va_W} {lv : List (Nat × Value)} {st : List Value} (E : Ob g X cc nL RX6) (hd : decode cc pc = .ok (.getfield 133, 3)) (q : Nat) {a : Nat} {fs : List Value} (he : ws[q]? = some (a, .inr (2, fs))) {v : Value} (hv : fs[0]? = some v) (K : Z g X nL k n ws lv (v :: st) (pc + 3)) : Z g X nL k n ws lv (.ref a :: st) pc := z_get E rfl inA2 0 (by decide) rfl fl_X6_133 hd q he hv K
theorem pt_X6_133 {g : GC} {X : XC} {cc : ByteArray} {nL k n pc : Nat} {ws : va_W} {lv : List (Nat × Value)} {st : List Value} (E : Ob g X cc nL RX6) (hd : decode cc pc = .ok (.putfield 133, 3)) (q : Nat) {a : Nat} {fs : List Value} (he : ws[q]? = some (a, .inr (2, fs))) (hl : 0 < fs.length) {x : Int32} {ws' : va_W} (hws : ws.set q (a, .inr (2, fs.set 0 (.int x))) = ws') (K : Z g X nL k n ws' lv st (pc + 3)) : Z g X nL k n ws lv (.int x :: .ref a :: st) pc := z_put E tyX2 rfl inA2 tyX2_ok nmX2 0 (by decide) rfl fl_X6_133 rfl hd q he hl rfl rfl hws K
theorem fl_X6_136 : Cond.fieldLink RX6 136 RX2 (TX2 1).2.1 (TX2 1).2.2.1 ∈ lwA := lwA_mem (tb_1 (List.mem_of_getElem? (i := 128) rfl)) rfl
theorem gt_X6_136 {g : GC} {X : XC} {cc : ByteArray} {nL k n pc : Nat} {ws : va_W} {lv : List (Nat × Value)} {st : List Value} (E : Ob g X cc nL RX6) (hd : decode cc pc = .ok (.getfield 136, 3)) (q : Nat) {a : Nat} {fs : List Value} (he : ws[q]? = some (a, .inr (2, fs))) {v : Value} (hv : fs[1]? = some v) (K : Z g X nL k n ws lv (v :: st) (pc + 3)) : Z g X nL k n ws lv (.ref a :: st) pc := z_get E rfl inA2 1 (by decide) rfl fl_X6_136 hd q he hv K
theorem pt_X6_136 {g : GC} {X : XC} {cc : ByteArray} {nL k n pc : Nat} {ws : va_W} {lv : List (Nat × Value)} {st : List Value} (E : Ob g X cc nL RX6) (hd : decode cc pc = .ok (.putfield 136, 3)) (q : Nat) {a : Nat} {fs : List Value} (he : ws[q]? = some (a, .inr (2, fs))) (hl : 1 < fs.length) {x : Int32} {ws' : va_W} (hws : ws.set q (a, .inr (2, fs.set 1 (.int x))) = ws') (K : Z g X nL k n ws' lv st (pc + 3)) : Z g X nL k n ws lv (.int x :: .ref a :: st) pc := z_put E tyX2 rfl inA2 tyX2_ok nmX2 1 (by decide) rfl fl_X6_136 rfl hd q he hl rfl rfl hws K
theorem fl_X6_139 : Cond.fieldLink RX6 139 RX2 (TX2 2).2.1 (TX2 2).2.2.1 ∈ lwA := lwA_mem (tb_1 (List.mem_of_getElem? (i := 130) rfl)) rfl
theorem gt_X6_139 {g : GC} {X : XC} {cc : ByteArray} {nL k n pc : Nat} {ws : va_W} {lv : List (Nat × Value)} {st : List Value} (E : Ob g X cc nL RX6) (hd : decode cc pc = .ok (.getfield 139, 3)) (q : Nat) {a : Nat} {fs : List Value} (he : ws[q]? = some (a, .inr (2, fs))) {v : Value} (hv : fs[2]? = some v) (K : Z g X nL k n ws lv (v :: st) (pc + 3)) : Z g X nL k n ws lv (.ref a :: st) pc := z_get E rfl inA2 2 (by decide) rfl fl_X6_139 hd q he hv K
theorem pt_X6_139 {g : GC} {X : XC} {cc : ByteArray} {nL k n pc : Nat} {ws : va_W} {lv : List (Nat × Value)} {st : List Value} (E : Ob g X cc nL RX6) (hd : decode cc pc = .ok (.putfield 139, 3)) (q : Nat) {a : Nat} {fs : List Value} (he : ws[q]? = some (a, .inr (2, fs))) (hl : 2 < fs.length) {x : Int32} {ws' : va_W} (hws : ws.set q (a, .inr (2, fs.set 2 (.int x))) = ws') (K : Z g X nL k n ws' lv st (pc + 3)) : Z g X nL k n ws lv (.int x :: .ref a :: st) pc := z_put E tyX2 rfl inA2 tyX2_ok nmX2 2 (by decide) rfl fl_X6_139 rfl hd q he hl rfl rfl hws K
theorem fl_X6_142 : Cond.fieldLink RX6 142 RX2 (TX2 3).2.1 (TX2 3).2.2.1 ∈ lwA := lwA_mem (tb_1 (List.mem_of_getElem? (i := 132) rfl)) rfl
theorem gt_X6_142 {g : GC} {X : XC} {cc : ByteArray} {nL k n pc : Nat} {ws : va_W} {lv : List (Nat × Value)} {st : List Value} (E : Ob g X cc nL RX6) (hd : decode cc pc = .ok (.getfield 142, 3)) (q : Nat) {a : Nat} {fs : List Value} (he : ws[q]? = some (a, .inr (2, fs))) {v : Value} (hv : fs[3]? = some v) (K : Z g X nL k n ws lv (v :: st) (pc + 3)) : Z g X nL k n ws lv (.ref a :: st) pc := z_get E rfl inA2 3 (by decide) rfl fl_X6_142 hd q he hv K
theorem pt_X6_142 {g : GC} {X : XC} {cc : ByteArray} {nL k n pc : Nat} {ws : va_W} {lv : List (Nat × Value)} {st : List Value} (E : Ob g X cc nL RX6) (hd : decode cc pc = .ok (.putfield 142, 3)) (q : Nat) {a : Nat} {fs : List Value} (he : ws[q]? = some (a, .inr (2, fs))) (hl : 3 < fs.length) {x : Int32} {ws' : va_W} (hws : ws.set q (a, .inr (2, fs.set 3 (.int x))) = ws') (K : Z g X nL k n ws' lv st (pc + 3)) : Z g X nL k n ws lv (.int x :: .ref a :: st) pc := z_put E tyX2 rfl inA2 tyX2_ok nmX2 3 (by decide) rfl fl_X6_142 rfl hd q he hl rfl rfl hws K
theorem fl_X6_145 : Cond.fieldLink RX6 145 RX2 (TX2 4).2.1 (TX2 4).2.2.1 ∈ lwA := lwA_mem (tb_1 (List.mem_of_getElem? (i := 135) rfl)) rfl
theorem gt_X6_145 {g : GC} {X : XC} {cc : ByteArray} {nL k n pc : Nat} {ws : va_W} {lv : List (Nat × Value)} {st : List Value} (E : Ob g X cc nL RX6) (hd : decode cc pc = .ok (.getfield 145, 3)) (q : Nat) {a : Nat} {fs : List Value} (he : ws[q]? = some (a, .inr (2, fs))) {v : Value} (hv : fs[4]? = some v) (K : Z g X nL k n ws lv (v :: st) (pc + 3)) : Z g X nL k n ws lv (.ref a :: st) pc := z_get E rfl inA2 4 (by decide) rfl fl_X6_145 hd q he hv K
theorem pt_X6_145 {g : GC} {X : XC} {cc : ByteArray} {nL k n pc : Nat} {ws : va_W} {lv : List (Nat × Value)} {st : List Value} (E : Ob g X cc nL RX6) (hd : decode cc pc = .ok (.putfield 145, 3)) (q : Nat) {a : Nat} {fs : List Value} (he : ws[q]? = some (a, .inr (2, fs))) (hl : 4 < fs.length) {x : Int32} {ws' : va_W} (hws : ws.set q (a, .inr (2, fs.set 4 (.int x))) = ws') (K : Z g X nL k n ws' lv st (pc + 3)) : Z g X nL k n ws lv (.int x :: .ref a :: st) pc := z_put E tyX2 rfl inA2 tyX2_ok nmX2 4 (by decide) rfl fl_X6_145 rfl hd q he hl rfl rfl hws K
theorem fl_X6_183 : Cond.fieldLink RX6 183 RX5 (TX5 8).2.1 (TX5 8).2.2.1 ∈ lwA := lwA_mem (tb_1 (List.mem_of_getElem? (i := 189) rfl)) rfl
theorem gt_X6_183 {g : GC} {X : XC} {cc : ByteArray} {nL k n pc : Nat} {ws : va_W} {lv : List (Nat × Value)} {st : List Value} (E : Ob g X cc nL RX6) (hd : decode cc pc = .ok (.getfield 183, 3)) (q : Nat) {a : Nat} {fs : List Value} (he : ws[q]? = some (a, .inr (5, fs))) {v : Value} (hv : fs[8]? = some v) (K : Z g X nL k n ws lv (v :: st) (pc + 3)) : Z g X nL k n ws lv (.ref a :: st) pc := z_get E rfl inA5 8 (by decide) rfl fl_X6_183 hd q he hv K
theorem pt_X6_183 {g : GC} {X : XC} {cc : ByteArray} {nL k n pc : Nat} {ws : va_W} {lv : List (Nat × Value)} {st : List Value} (E : Ob g X cc nL RX6) (hd : decode cc pc = .ok (.putfield 183, 3)) (q : Nat) {a : Nat} {fs : List Value} (he : ws[q]? = some (a, .inr (5, fs))) (hl : 8 < fs.length) {x : Int32} {ws' : va_W} (hws : ws.set q (a, .inr (5, fs.set 8 (.int x))) = ws') (K : Z g X nL k n ws' lv st (pc + 3)) : Z g X nL k n ws lv (.int x :: .ref a :: st) pc := z_put E tyX5 rfl inA5 tyX5_ok nmX5 8 (by decide) rfl fl_X6_183 rfl hd q he hl rfl rfl hws K
theorem fl_X6_186 : Cond.fieldLink RX6 186 RX5 (TX5 7).2.1 (TX5 7).2.2.1 ∈ lwA := lwA_mem (tb_1 (List.mem_of_getElem? (i := 188) rfl)) rfl
theorem gt_X6_186 {g : GC} {X : XC} {cc : ByteArray} {nL k n pc : Nat} {ws : va_W} {lv : List (Nat × Value)} {st : List Value} (E : Ob g X cc nL RX6) (hd : decode cc pc = .ok (.getfield 186, 3)) (q : Nat) {a : Nat} {fs : List Value} (he : ws[q]? = some (a, .inr (5, fs))) {v : Value} (hv : fs[7]? = some v) (K : Z g X nL k n ws lv (v :: st) (pc + 3)) : Z g X nL k n ws lv (.ref a :: st) pc := z_get E rfl inA5 7 (by decide) rfl fl_X6_186 hd q he hv K
theorem pt_X6_186 {g : GC} {X : XC} {cc : ByteArray} {nL k n pc : Nat} {ws : va_W} {lv : List (Nat × Value)} {st : List Value} (E : Ob g X cc nL RX6) (hd : decode cc pc = .ok (.putfield 186, 3)) (q : Nat) {a : Nat} {fs : List Value} (he : ws[q]? = some (a, .inr (5, fs))) (hl : 7 < fs.length) {x : Int32} {ws' : va_W} (hws : ws.set q (a, .inr (5, fs.set 7 (.int x))) = ws') (K : Z g X nL k n ws' lv st (pc + 3)) : Z g X nL k n ws lv (.int x :: .ref a :: st) pc := z_put E tyX5 rfl inA5 tyX5_ok nmX5 7 (by decide) rfl fl_X6_186 rfl hd q he hl rfl rfl hws K
theorem fl_X6_189 : Cond.fieldLink RX6 189 RX5 (TX5 6).2.1 (TX5 6).2.2.1 ∈ lwA := lwA_mem (tb_1 (List.mem_of_getElem? (i := 186) rfl)) rfl
theorem gt_X6_189 {g : GC} {X : XC} {cc : ByteArray} {nL k n pc : Nat} {ws : va_W} {lv : List (Nat × Value)} {st : List Value} (E : Ob g X cc nL RX6) (hd : decode cc pc = .ok (.getfield 189, 3)) (q : Nat) {a : Nat} {fs : List Value} (he : ws[q]? = some (a, .inr (5, fs))) {v : Value} (hv : fs[6]? = some v) (K : Z g X nL k n ws lv (v :: st) (pc + 3)) : Z g X nL k n ws lv (.ref a :: st) pc := z_get E rfl inA5 6 (by decide) rfl fl_X6_189 hd q he hv K
theorem fl_X6_192 : Cond.fieldLink RX6 192 RX4 (TX4 3).2.1 (TX4 3).2.2.1 ∈ lwA := lwA_mem (tb_1 (List.mem_of_getElem? (i := 80) rfl)) rfl
theorem gt_X6_192 {g : GC} {X : XC} {cc : ByteArray} {nL k n pc : Nat} {ws : va_W} {lv : List (Nat × Value)} {st : List Value} (E : Ob g X cc nL RX6) (hd : decode cc pc = .ok (.getfield 192, 3)) (q : Nat) {a : Nat} {fs : List Value} (he : ws[q]? = some (a, .inr (4, fs))) {v : Value} (hv : fs[3]? = some v) (K : Z g X nL k n ws lv (v :: st) (pc + 3)) : Z g X nL k n ws lv (.ref a :: st) pc := z_get E rfl inA4 3 (by decide) rfl fl_X6_192 hd q he hv K
theorem pt_X6_192 {g : GC} {X : XC} {cc : ByteArray} {nL k n pc : Nat} {ws : va_W} {lv : List (Nat × Value)} {st : List Value} (E : Ob g X cc nL RX6) (hd : decode cc pc = .ok (.putfield 192, 3)) (q : Nat) {a : Nat} {fs : List Value} (he : ws[q]? = some (a, .inr (4, fs))) (hl : 3 < fs.length) {x : Int32} {ws' : va_W} (hws : ws.set q (a, .inr (4, fs.set 3 (.int x))) = ws') (K : Z g X nL k n ws' lv st (pc + 3)) : Z g X nL k n ws lv (.int x :: .ref a :: st) pc := z_put E tyX4 rfl inA4 tyX4_ok nmX4 3 (by decide) rfl fl_X6_192 rfl hd q he hl rfl rfl hws K
theorem fl_X6_205 : Cond.fieldLink RX6 205 RX4 (TX4 1).2.1 (TX4 1).2.2.1 ∈ lwA := lwA_mem (tb_1 (List.mem_of_getElem? (i := 73) rfl)) rfl
theorem gt_X6_205 {g : GC} {X : XC} {cc : ByteArray} {nL k n pc : Nat} {ws : va_W} {lv : List (Nat × Value)} {st : List Value} (E : Ob g X cc nL RX6) (hd : decode cc pc = .ok (.getfield 205, 3)) (q : Nat) {a : Nat} {fs : List Value} (he : ws[q]? = some (a, .inr (4, fs))) {v : Value} (hv : fs[1]? = some v) (K : Z g X nL k n ws lv (v :: st) (pc + 3)) : Z g X nL k n ws lv (.ref a :: st) pc := z_get E rfl inA4 1 (by decide) rfl fl_X6_205 hd q he hv K
theorem pt_X6_205 {g : GC} {X : XC} {cc : ByteArray} {nL k n pc : Nat} {ws : va_W} {lv : List (Nat × Value)} {st : List Value} (E : Ob g X cc nL RX6) (hd : decode cc pc = .ok (.putfield 205, 3)) (q : Nat) {a : Nat} {fs : List Value} (he : ws[q]? = some (a, .inr (4, fs))) (hl : 1 < fs.length) {x : Int32} {ws' : va_W} (hws : ws.set q (a, .inr (4, fs.set 1 (.int x))) = ws') (K : Z g X nL k n ws' lv st (pc + 3)) : Z g X nL k n ws lv (.int x :: .ref a :: st) pc := z_put E tyX4 rfl inA4 tyX4_ok nmX4 1 (by decide) rfl fl_X6_205 rfl hd q he hl rfl rfl hws K
theorem fl_X6_214 : Cond.fieldLink RX6 214 RX6 (TX6 8).2.1 (TX6 8).2.2.1 ∈ lwA := lwA_mem (tb_2 (List.mem_of_getElem? (i := 3) rfl)) rfl
theorem gt_X6_214 {g : GC} {X : XC} {cc : ByteArray} {nL k n pc : Nat} {ws : va_W} {lv : List (Nat × Value)} {st : List Value} (E : Ob g X cc nL RX6) (hd : decode cc pc = .ok (.getfield 214, 3)) (q : Nat) {a : Nat} {fs : List Value} (he : ws[q]? = some (a, .inr (6, fs))) {v : Value} (hv : fs[8]? = some v) (K : Z g X nL k n ws lv (v :: st) (pc + 3)) : Z g X nL k n ws lv (.ref a :: st) pc := z_get E rfl inA6 8 (by decide) rfl fl_X6_214 hd q he hv K
theorem pt_X6_214 {g : GC} {X : XC} {cc : ByteArray} {nL k n pc : Nat} {ws : va_W} {lv : List (Nat × Value)} {st : List Value} (E : Ob g X cc nL RX6) (hd : decode cc pc = .ok (.putfield 214, 3)) (q : Nat) {a : Nat} {fs : List Value} (he : ws[q]? = some (a, .inr (6, fs))) (hl : 8 < fs.length) {x : Int32} {ws' : va_W} (hws : ws.set q (a, .inr (6, fs.set 8 (.int x))) = ws') (K : Z g X nL k n ws' lv st (pc + 3)) : Z g X nL k n ws lv (.int x :: .ref a :: st) pc := z_put E tyX6 rfl inA6 tyX6_ok nmX6 8 (by decide) rfl fl_X6_214 rfl hd q he hl rfl rfl hws K
theorem fl_X6_226 : Cond.fieldLink RX6 226 RX6 (TX6 11).2.1 (TX6 11).2.2.1 ∈ lwA := lwA_mem (tb_2 (List.mem_of_getElem? (i := 6) rfl)) rfl
theorem gt_X6_226 {g : GC} {X : XC} {cc : ByteArray} {nL k n pc : Nat} {ws : va_W} {lv : List (Nat × Value)} {st : List Value} (E : Ob g X cc nL RX6) (hd : decode cc pc = .ok (.getfield 226, 3)) (q : Nat) {a : Nat} {fs : List Value} (he : ws[q]? = some (a, .inr (6, fs))) {v : Value} (hv : fs[11]? = some v) (K : Z g X nL k n ws lv (v :: st) (pc + 3)) : Z g X nL k n ws lv (.ref a :: st) pc := z_get E rfl inA6 11 (by decide) rfl fl_X6_226 hd q he hv K
theorem pt_X6_226 {g : GC} {X : XC} {cc : ByteArray} {nL k n pc : Nat} {ws : va_W} {lv : List (Nat × Value)} {st : List Value} (E : Ob g X cc nL RX6) (hd : decode cc pc = .ok (.putfield 226, 3)) (q : Nat) {a : Nat} {fs : List Value} (he : ws[q]? = some (a, .inr (6, fs))) (hl : 11 < fs.length) {x : Int32} {ws' : va_W} (hws : ws.set q (a, .inr (6, fs.set 11 (.int x))) = ws') (K : Z g X nL k n ws' lv st (pc + 3)) : Z g X nL k n ws lv (.int x :: .ref a :: st) pc := z_put E tyX6 rfl inA6 tyX6_ok nmX6 11 (by decide) rfl fl_X6_226 rfl hd q he hl rfl rfl hws K
theorem fl_X6_258 : Cond.fieldLink RX6 258 RX4 (TX4 0).2.1 (TX4 0).2.2.1 ∈ lwA := lwA_mem (tb_1 (List.mem_of_getElem? (i := 68) rfl)) rfl
theorem gt_X6_258 {g : GC} {X : XC} {cc : ByteArray} {nL k n pc : Nat} {ws : va_W} {lv : List (Nat × Value)} {st : List Value} (E : Ob g X cc nL RX6) (hd : decode cc pc = .ok (.getfield 258, 3)) (q : Nat) {a : Nat} {fs : List Value} (he : ws[q]? = some (a, .inr (4, fs))) {v : Value} (hv : fs[0]? = some v) (K : Z g X nL k n ws lv (v :: st) (pc + 3)) : Z g X nL k n ws lv (.ref a :: st) pc := z_get E rfl inA4 0 (by decide) rfl fl_X6_258 hd q he hv K
theorem pt_X6_258 {g : GC} {X : XC} {cc : ByteArray} {nL k n pc : Nat} {ws : va_W} {lv : List (Nat × Value)} {st : List Value} (E : Ob g X cc nL RX6) (hd : decode cc pc = .ok (.putfield 258, 3)) (q : Nat) {a : Nat} {fs : List Value} (he : ws[q]? = some (a, .inr (4, fs))) (hl : 0 < fs.length) {x : Int32} {ws' : va_W} (hws : ws.set q (a, .inr (4, fs.set 0 (.int x))) = ws') (K : Z g X nL k n ws' lv st (pc + 3)) : Z g X nL k n ws lv (.int x :: .ref a :: st) pc := z_put E tyX4 rfl inA4 tyX4_ok nmX4 0 (by decide) rfl fl_X6_258 rfl hd q he hl rfl rfl hws K
theorem fl_X6_261 : Cond.fieldLink RX6 261 RX4 (TX4 4).2.1 (TX4 4).2.2.1 ∈ lwA := lwA_mem (tb_1 (List.mem_of_getElem? (i := 83) rfl)) rfl
theorem gt_X6_261 {g : GC} {X : XC} {cc : ByteArray} {nL k n pc : Nat} {ws : va_W} {lv : List (Nat × Value)} {st : List Value} (E : Ob g X cc nL RX6) (hd : decode cc pc = .ok (.getfield 261, 3)) (q : Nat) {a : Nat} {fs : List Value} (he : ws[q]? = some (a, .inr (4, fs))) {v : Value} (hv : fs[4]? = some v) (K : Z g X nL k n ws lv (v :: st) (pc + 3)) : Z g X nL k n ws lv (.ref a :: st) pc := z_get E rfl inA4 4 (by decide) rfl fl_X6_261 hd q he hv K
theorem pt_X6_261 {g : GC} {X : XC} {cc : ByteArray} {nL k n pc : Nat} {ws : va_W} {lv : List (Nat × Value)} {st : List Value} (E : Ob g X cc nL RX6) (hd : decode cc pc = .ok (.putfield 261, 3)) (q : Nat) {a : Nat} {fs : List Value} (he : ws[q]? = some (a, .inr (4, fs))) (hl : 4 < fs.length) {x : Int32} {ws' : va_W} (hws : ws.set q (a, .inr (4, fs.set 4 (.int x))) = ws') (K : Z g X nL k n ws' lv st (pc + 3)) : Z g X nL k n ws lv (.int x :: .ref a :: st) pc := z_put E tyX4 rfl inA4 tyX4_ok nmX4 4 (by decide) rfl fl_X6_261 rfl hd q he hl rfl rfl hws K
theorem fl_X6_264 : Cond.fieldLink RX6 264 RX4 (TX4 5).2.1 (TX4 5).2.2.1 ∈ lwA := lwA_mem (tb_1 (List.mem_of_getElem? (i := 86) rfl)) rfl
theorem gt_X6_264 {g : GC} {X : XC} {cc : ByteArray} {nL k n pc : Nat} {ws : va_W} {lv : List (Nat × Value)} {st : List Value} (E : Ob g X cc nL RX6) (hd : decode cc pc = .ok (.getfield 264, 3)) (q : Nat) {a : Nat} {fs : List Value} (he : ws[q]? = some (a, .inr (4, fs))) {v : Value} (hv : fs[5]? = some v) (K : Z g X nL k n ws lv (v :: st) (pc + 3)) : Z g X nL k n ws lv (.ref a :: st) pc := z_get E rfl inA4 5 (by decide) rfl fl_X6_264 hd q he hv K
theorem pt_X6_264 {g : GC} {X : XC} {cc : ByteArray} {nL k n pc : Nat} {ws : va_W} {lv : List (Nat × Value)} {st : List Value} (E : Ob g X cc nL RX6) (hd : decode cc pc = .ok (.putfield 264, 3)) (q : Nat) {a : Nat} {fs : List Value} (he : ws[q]? = some (a, .inr (4, fs))) (hl : 5 < fs.length) {x : Int32} {ws' : va_W} (hws : ws.set q (a, .inr (4, fs.set 5 (.int x))) = ws') (K : Z g X nL k n ws' lv st (pc + 3)) : Z g X nL k n ws lv (.int x :: .ref a :: st) pc := z_put E tyX4 rfl inA4 tyX4_ok nmX4 5 (by decide) rfl fl_X6_264 rfl hd q he hl rfl rfl hws K
theorem fl_X6_267 : Cond.fieldLink RX6 267 RX6 (TX6 14).2.1 (TX6 14).2.2.1 ∈ lwA := lwA_mem (tb_2 (List.mem_of_getElem? (i := 9) rfl)) rfl
theorem gt_X6_267 {g : GC} {X : XC} {cc : ByteArray} {nL k n pc : Nat} {ws : va_W} {lv : List (Nat × Value)} {st : List Value} (E : Ob g X cc nL RX6) (hd : decode cc pc = .ok (.getfield 267, 3)) (q : Nat) {a : Nat} {fs : List Value} (he : ws[q]? = some (a, .inr (6, fs))) {v : Value} (hv : fs[14]? = some v) (K : Z g X nL k n ws lv (v :: st) (pc + 3)) : Z g X nL k n ws lv (.ref a :: st) pc := z_get E rfl inA6 14 (by decide) rfl fl_X6_267 hd q he hv K
theorem pt_X6_267 {g : GC} {X : XC} {cc : ByteArray} {nL k n pc : Nat} {ws : va_W} {lv : List (Nat × Value)} {st : List Value} (E : Ob g X cc nL RX6) (hd : decode cc pc = .ok (.putfield 267, 3)) (q : Nat) {a : Nat} {fs : List Value} (he : ws[q]? = some (a, .inr (6, fs))) (hl : 14 < fs.length) {x : Int64} {ws' : va_W} (hws : ws.set q (a, .inr (6, fs.set 14 (.long x))) = ws') (K : Z g X nL k n ws' lv st (pc + 3)) : Z g X nL k n ws lv (.long x :: .ref a :: st) pc := z_put E tyX6 rfl inA6 tyX6_ok nmX6 14 (by decide) rfl fl_X6_267 rfl hd q he hl rfl rfl hws K
theorem fl_X6_271 : Cond.fieldLink RX6 271 RX4 (TX4 8).2.1 (TX4 8).2.2.1 ∈ lwA := lwA_mem (tb_1 (List.mem_of_getElem? (i := 95) rfl)) rfl
theorem gt_X6_271 {g : GC} {X : XC} {cc : ByteArray} {nL k n pc : Nat} {ws : va_W} {lv : List (Nat × Value)} {st : List Value} (E : Ob g X cc nL RX6) (hd : decode cc pc = .ok (.getfield 271, 3)) (q : Nat) {a : Nat} {fs : List Value} (he : ws[q]? = some (a, .inr (4, fs))) {v : Value} (hv : fs[8]? = some v) (K : Z g X nL k n ws lv (v :: st) (pc + 3)) : Z g X nL k n ws lv (.ref a :: st) pc := z_get E rfl inA4 8 (by decide) rfl fl_X6_271 hd q he hv K
theorem fl_X0_9 : Cond.fieldLink RX0 9 RX0 (TX0 0).2.1 (TX0 0).2.2.1 ∈ lwA := lwA_mem (tb_1 (List.mem_of_getElem? (i := 217) rfl)) rfl
theorem gt_X0_9 {g : GC} {X : XC} {cc : ByteArray} {nL k n pc : Nat} {ws : va_W} {lv : List (Nat × Value)} {st : List Value} (E : Ob g X cc nL RX0) (hd : decode cc pc = .ok (.getfield 9, 3)) (q : Nat) {a : Nat} {fs : List Value} (he : ws[q]? = some (a, .inr (0, fs))) {v : Value} (hv : fs[0]? = some v) (K : Z g X nL k n ws lv (v :: st) (pc + 3)) : Z g X nL k n ws lv (.ref a :: st) pc := z_get E rfl inA0 0 (by decide) rfl fl_X0_9 hd q he hv K
theorem pt_X0_9 {g : GC} {X : XC} {cc : ByteArray} {nL k n pc : Nat} {ws : va_W} {lv : List (Nat × Value)} {st : List Value} (E : Ob g X cc nL RX0) (hd : decode cc pc = .ok (.putfield 9, 3)) (q : Nat) {a : Nat} {fs : List Value} (he : ws[q]? = some (a, .inr (0, fs))) (hl : 0 < fs.length) {x : Int64} {ws' : va_W} (hws : ws.set q (a, .inr (0, fs.set 0 (.long x))) = ws') (K : Z g X nL k n ws' lv st (pc + 3)) : Z g X nL k n ws lv (.long x :: .ref a :: st) pc := z_put E tyX0 rfl inA0 tyX0_ok nmX0 0 (by decide) rfl fl_X0_9 rfl hd q he hl rfl rfl hws K
theorem fl_X0_15 : Cond.fieldLink RX0 15 RX0 (TX0 1).2.1 (TX0 1).2.2.1 ∈ lwA := lwA_mem (tb_1 (List.mem_of_getElem? (i := 218) rfl)) rfl
theorem gt_X0_15 {g : GC} {X : XC} {cc : ByteArray} {nL k n pc : Nat} {ws : va_W} {lv : List (Nat × Value)} {st : List Value} (E : Ob g X cc nL RX0) (hd : decode cc pc = .ok (.getfield 15, 3)) (q : Nat) {a : Nat} {fs : List Value} (he : ws[q]? = some (a, .inr (0, fs))) {v : Value} (hv : fs[1]? = some v) (K : Z g X nL k n ws lv (v :: st) (pc + 3)) : Z g X nL k n ws lv (.ref a :: st) pc := z_get E rfl inA0 1 (by decide) rfl fl_X0_15 hd q he hv K
theorem fl_X0_19 : Cond.fieldLink RX0 19 RX0 (TX0 2).2.1 (TX0 2).2.2.1 ∈ lwA := lwA_mem (tb_1 (List.mem_of_getElem? (i := 219) rfl)) rfl
theorem gt_X0_19 {g : GC} {X : XC} {cc : ByteArray} {nL k n pc : Nat} {ws : va_W} {lv : List (Nat × Value)} {st : List Value} (E : Ob g X cc nL RX0) (hd : decode cc pc = .ok (.getfield 19, 3)) (q : Nat) {a : Nat} {fs : List Value} (he : ws[q]? = some (a, .inr (0, fs))) {v : Value} (hv : fs[2]? = some v) (K : Z g X nL k n ws lv (v :: st) (pc + 3)) : Z g X nL k n ws lv (.ref a :: st) pc := z_get E rfl inA0 2 (by decide) rfl fl_X0_19 hd q he hv K
theorem fl_X0_22 : Cond.fieldLink RX0 22 RX0 (TX0 3).2.1 (TX0 3).2.2.1 ∈ lwA := lwA_mem (tb_1 (List.mem_of_getElem? (i := 220) rfl)) rfl
theorem gt_X0_22 {g : GC} {X : XC} {cc : ByteArray} {nL k n pc : Nat} {ws : va_W} {lv : List (Nat × Value)} {st : List Value} (E : Ob g X cc nL RX0) (hd : decode cc pc = .ok (.getfield 22, 3)) (q : Nat) {a : Nat} {fs : List Value} (he : ws[q]? = some (a, .inr (0, fs))) {v : Value} (hv : fs[3]? = some v) (K : Z g X nL k n ws lv (v :: st) (pc + 3)) : Z g X nL k n ws lv (.ref a :: st) pc := z_get E rfl inA0 3 (by decide) rfl fl_X0_22 hd q he hv K
theorem fl_X0_26 : Cond.fieldLink RX0 26 RX4 (TX4 0).2.1 (TX4 0).2.2.1 ∈ lwA := lwA_mem (tb_1 (List.mem_of_getElem? (i := 66) rfl)) rfl
theorem gt_X0_26 {g : GC} {X : XC} {cc : ByteArray} {nL k n pc : Nat} {ws : va_W} {lv : List (Nat × Value)} {st : List Value} (E : Ob g X cc nL RX0) (hd : decode cc pc = .ok (.getfield 26, 3)) (q : Nat) {a : Nat} {fs : List Value} (he : ws[q]? = some (a, .inr (4, fs))) {v : Value} (hv : fs[0]? = some v) (K : Z g X nL k n ws lv (v :: st) (pc + 3)) : Z g X nL k n ws lv (.ref a :: st) pc := z_get E rfl inA4 0 (by decide) rfl fl_X0_26 hd q he hv K
theorem pt_X0_26 {g : GC} {X : XC} {cc : ByteArray} {nL k n pc : Nat} {ws : va_W} {lv : List (Nat × Value)} {st : List Value} (E : Ob g X cc nL RX0) (hd : decode cc pc = .ok (.putfield 26, 3)) (q : Nat) {a : Nat} {fs : List Value} (he : ws[q]? = some (a, .inr (4, fs))) (hl : 0 < fs.length) {x : Int32} {ws' : va_W} (hws : ws.set q (a, .inr (4, fs.set 0 (.int x))) = ws') (K : Z g X nL k n ws' lv st (pc + 3)) : Z g X nL k n ws lv (.int x :: .ref a :: st) pc := z_put E tyX4 rfl inA4 tyX4_ok nmX4 0 (by decide) rfl fl_X0_26 rfl hd q he hl rfl rfl hws K
theorem fl_X0_62 : Cond.fieldLink RX0 62 RX4 (TX4 1).2.1 (TX4 1).2.2.1 ∈ lwA := lwA_mem (tb_1 (List.mem_of_getElem? (i := 71) rfl)) rfl
theorem gt_X0_62 {g : GC} {X : XC} {cc : ByteArray} {nL k n pc : Nat} {ws : va_W} {lv : List (Nat × Value)} {st : List Value} (E : Ob g X cc nL RX0) (hd : decode cc pc = .ok (.getfield 62, 3)) (q : Nat) {a : Nat} {fs : List Value} (he : ws[q]? = some (a, .inr (4, fs))) {v : Value} (hv : fs[1]? = some v) (K : Z g X nL k n ws lv (v :: st) (pc + 3)) : Z g X nL k n ws lv (.ref a :: st) pc := z_get E rfl inA4 1 (by decide) rfl fl_X0_62 hd q he hv K
theorem pt_X0_62 {g : GC} {X : XC} {cc : ByteArray} {nL k n pc : Nat} {ws : va_W} {lv : List (Nat × Value)} {st : List Value} (E : Ob g X cc nL RX0) (hd : decode cc pc = .ok (.putfield 62, 3)) (q : Nat) {a : Nat} {fs : List Value} (he : ws[q]? = some (a, .inr (4, fs))) (hl : 1 < fs.length) {x : Int32} {ws' : va_W} (hws : ws.set q (a, .inr (4, fs.set 1 (.int x))) = ws') (K : Z g X nL k n ws' lv st (pc + 3)) : Z g X nL k n ws lv (.int x :: .ref a :: st) pc := z_put E tyX4 rfl inA4 tyX4_ok nmX4 1 (by decide) rfl fl_X0_62 rfl hd q he hl rfl rfl hws K
theorem fl_X1_11 : Cond.fieldLink RX1 11 RX1 (TX1 0).2.1 (TX1 0).2.2.1 ∈ lwA := lwA_mem (tb_1 (List.mem_of_getElem? (i := 161) rfl)) rfl
theorem gt_X1_11 {g : GC} {X : XC} {cc : ByteArray} {nL k n pc : Nat} {ws : va_W} {lv : List (Nat × Value)} {st : List Value} (E : Ob g X cc nL RX1) (hd : decode cc pc = .ok (.getfield 11, 3)) (q : Nat) {a : Nat} {fs : List Value} (he : ws[q]? = some (a, .inr (1, fs))) {v : Value} (hv : fs[0]? = some v) (K : Z g X nL k n ws lv (v :: st) (pc + 3)) : Z g X nL k n ws lv (.ref a :: st) pc := z_get E rfl inA1 0 (by decide) rfl fl_X1_11 hd q he hv K
theorem fl_X1_18 : Cond.fieldLink RX1 18 RX1 (TX1 2).2.1 (TX1 2).2.2.1 ∈ lwA := lwA_mem (tb_1 (List.mem_of_getElem? (i := 163) rfl)) rfl
theorem gt_X1_18 {g : GC} {X : XC} {cc : ByteArray} {nL k n pc : Nat} {ws : va_W} {lv : List (Nat × Value)} {st : List Value} (E : Ob g X cc nL RX1) (hd : decode cc pc = .ok (.getfield 18, 3)) (q : Nat) {a : Nat} {fs : List Value} (he : ws[q]? = some (a, .inr (1, fs))) {v : Value} (hv : fs[2]? = some v) (K : Z g X nL k n ws lv (v :: st) (pc + 3)) : Z g X nL k n ws lv (.ref a :: st) pc := z_get E rfl inA1 2 (by decide) rfl fl_X1_18 hd q he hv K
theorem pt_X1_18 {g : GC} {X : XC} {cc : ByteArray} {nL k n pc : Nat} {ws : va_W} {lv : List (Nat × Value)} {st : List Value} (E : Ob g X cc nL RX1) (hd : decode cc pc = .ok (.putfield 18, 3)) (q : Nat) {a : Nat} {fs : List Value} (he : ws[q]? = some (a, .inr (1, fs))) (hl : 2 < fs.length) {x : Int32} {ws' : va_W} (hws : ws.set q (a, .inr (1, fs.set 2 (.int x))) = ws') (K : Z g X nL k n ws' lv st (pc + 3)) : Z g X nL k n ws lv (.int x :: .ref a :: st) pc := z_put E tyX1 rfl inA1 tyX1_ok nmX1 2 (by decide) rfl fl_X1_18 rfl hd q he hl rfl rfl hws K
theorem fl_X1_22 : Cond.fieldLink RX1 22 RX1 (TX1 1).2.1 (TX1 1).2.2.1 ∈ lwA := lwA_mem (tb_1 (List.mem_of_getElem? (i := 162) rfl)) rfl
theorem gt_X1_22 {g : GC} {X : XC} {cc : ByteArray} {nL k n pc : Nat} {ws : va_W} {lv : List (Nat × Value)} {st : List Value} (E : Ob g X cc nL RX1) (hd : decode cc pc = .ok (.getfield 22, 3)) (q : Nat) {a : Nat} {fs : List Value} (he : ws[q]? = some (a, .inr (1, fs))) {v : Value} (hv : fs[1]? = some v) (K : Z g X nL k n ws lv (v :: st) (pc + 3)) : Z g X nL k n ws lv (.ref a :: st) pc := z_get E rfl inA1 1 (by decide) rfl fl_X1_22 hd q he hv K
theorem pt_X1_22 {g : GC} {X : XC} {cc : ByteArray} {nL k n pc : Nat} {ws : va_W} {lv : List (Nat × Value)} {st : List Value} (E : Ob g X cc nL RX1) (hd : decode cc pc = .ok (.putfield 22, 3)) (q : Nat) {a : Nat} {fs : List Value} (he : ws[q]? = some (a, .inr (1, fs))) (hl : 1 < fs.length) {x : Int32} {ws' : va_W} (hws : ws.set q (a, .inr (1, fs.set 1 (.int x))) = ws') (K : Z g X nL k n ws' lv st (pc + 3)) : Z g X nL k n ws lv (.int x :: .ref a :: st) pc := z_put E tyX1 rfl inA1 tyX1_ok nmX1 1 (by decide) rfl fl_X1_22 rfl hd q he hl rfl rfl hws K
theorem fl_X2_9 : Cond.fieldLink RX2 9 RX2 (TX2 1).2.1 (TX2 1).2.2.1 ∈ lwA := lwA_mem (tb_1 (List.mem_of_getElem? (i := 127) rfl)) rfl
theorem gt_X2_9 {g : GC} {X : XC} {cc : ByteArray} {nL k n pc : Nat} {ws : va_W} {lv : List (Nat × Value)} {st : List Value} (E : Ob g X cc nL RX2) (hd : decode cc pc = .ok (.getfield 9, 3)) (q : Nat) {a : Nat} {fs : List Value} (he : ws[q]? = some (a, .inr (2, fs))) {v : Value} (hv : fs[1]? = some v) (K : Z g X nL k n ws lv (v :: st) (pc + 3)) : Z g X nL k n ws lv (.ref a :: st) pc := z_get E rfl inA2 1 (by decide) rfl fl_X2_9 hd q he hv K
theorem pt_X2_9 {g : GC} {X : XC} {cc : ByteArray} {nL k n pc : Nat} {ws : va_W} {lv : List (Nat × Value)} {st : List Value} (E : Ob g X cc nL RX2) (hd : decode cc pc = .ok (.putfield 9, 3)) (q : Nat) {a : Nat} {fs : List Value} (he : ws[q]? = some (a, .inr (2, fs))) (hl : 1 < fs.length) {x : Int32} {ws' : va_W} (hws : ws.set q (a, .inr (2, fs.set 1 (.int x))) = ws') (K : Z g X nL k n ws' lv st (pc + 3)) : Z g X nL k n ws lv (.int x :: .ref a :: st) pc := z_put E tyX2 rfl inA2 tyX2_ok nmX2 1 (by decide) rfl fl_X2_9 rfl hd q he hl rfl rfl hws K
theorem fl_X2_15 : Cond.fieldLink RX2 15 RX2 (TX2 5).2.1 (TX2 5).2.2.1 ∈ lwA := lwA_mem (tb_1 (List.mem_of_getElem? (i := 136) rfl)) rfl
theorem gt_X2_15 {g : GC} {X : XC} {cc : ByteArray} {nL k n pc : Nat} {ws : va_W} {lv : List (Nat × Value)} {st : List Value} (E : Ob g X cc nL RX2) (hd : decode cc pc = .ok (.getfield 15, 3)) (q : Nat) {a : Nat} {fs : List Value} (he : ws[q]? = some (a, .inr (2, fs))) {v : Value} (hv : fs[5]? = some v) (K : Z g X nL k n ws lv (v :: st) (pc + 3)) : Z g X nL k n ws lv (.ref a :: st) pc := z_get E rfl inA2 5 (by decide) rfl fl_X2_15 hd q he hv K
theorem fl_X2_19 : Cond.fieldLink RX2 19 RX2 (TX2 0).2.1 (TX2 0).2.2.1 ∈ lwA := lwA_mem (tb_1 (List.mem_of_getElem? (i := 125) rfl)) rfl
theorem gt_X2_19 {g : GC} {X : XC} {cc : ByteArray} {nL k n pc : Nat} {ws : va_W} {lv : List (Nat × Value)} {st : List Value} (E : Ob g X cc nL RX2) (hd : decode cc pc = .ok (.getfield 19, 3)) (q : Nat) {a : Nat} {fs : List Value} (he : ws[q]? = some (a, .inr (2, fs))) {v : Value} (hv : fs[0]? = some v) (K : Z g X nL k n ws lv (v :: st) (pc + 3)) : Z g X nL k n ws lv (.ref a :: st) pc := z_get E rfl inA2 0 (by decide) rfl fl_X2_19 hd q he hv K
theorem pt_X2_19 {g : GC} {X : XC} {cc : ByteArray} {nL k n pc : Nat} {ws : va_W} {lv : List (Nat × Value)} {st : List Value} (E : Ob g X cc nL RX2) (hd : decode cc pc = .ok (.putfield 19, 3)) (q : Nat) {a : Nat} {fs : List Value} (he : ws[q]? = some (a, .inr (2, fs))) (hl : 0 < fs.length) {x : Int32} {ws' : va_W} (hws : ws.set q (a, .inr (2, fs.set 0 (.int x))) = ws') (K : Z g X nL k n ws' lv st (pc + 3)) : Z g X nL k n ws lv (.int x :: .ref a :: st) pc := z_put E tyX2 rfl inA2 tyX2_ok nmX2 0 (by decide) rfl fl_X2_19 rfl hd q he hl rfl rfl hws K
theorem fl_X2_22 : Cond.fieldLink RX2 22 RX2 (TX2 2).2.1 (TX2 2).2.2.1 ∈ lwA := lwA_mem (tb_1 (List.mem_of_getElem? (i := 129) rfl)) rfl
theorem gt_X2_22 {g : GC} {X : XC} {cc : ByteArray} {nL k n pc : Nat} {ws : va_W} {lv : List (Nat × Value)} {st : List Value} (E : Ob g X cc nL RX2) (hd : decode cc pc = .ok (.getfield 22, 3)) (q : Nat) {a : Nat} {fs : List Value} (he : ws[q]? = some (a, .inr (2, fs))) {v : Value} (hv : fs[2]? = some v) (K : Z g X nL k n ws lv (v :: st) (pc + 3)) : Z g X nL k n ws lv (.ref a :: st) pc := z_get E rfl inA2 2 (by decide) rfl fl_X2_22 hd q he hv K
theorem pt_X2_22 {g : GC} {X : XC} {cc : ByteArray} {nL k n pc : Nat} {ws : va_W} {lv : List (Nat × Value)} {st : List Value} (E : Ob g X cc nL RX2) (hd : decode cc pc = .ok (.putfield 22, 3)) (q : Nat) {a : Nat} {fs : List Value} (he : ws[q]? = some (a, .inr (2, fs))) (hl : 2 < fs.length) {x : Int32} {ws' : va_W} (hws : ws.set q (a, .inr (2, fs.set 2 (.int x))) = ws') (K : Z g X nL k n ws' lv st (pc + 3)) : Z g X nL k n ws lv (.int x :: .ref a :: st) pc := z_put E tyX2 rfl inA2 tyX2_ok nmX2 2 (by decide) rfl fl_X2_22 rfl hd q he hl rfl rfl hws K
theorem fl_X2_25 : Cond.fieldLink RX2 25 RX2 (TX2 3).2.1 (TX2 3).2.2.1 ∈ lwA := lwA_mem (tb_1 (List.mem_of_getElem? (i := 131) rfl)) rfl
theorem gt_X2_25 {g : GC} {X : XC} {cc : ByteArray} {nL k n pc : Nat} {ws : va_W} {lv : List (Nat × Value)} {st : List Value} (E : Ob g X cc nL RX2) (hd : decode cc pc = .ok (.getfield 25, 3)) (q : Nat) {a : Nat} {fs : List Value} (he : ws[q]? = some (a, .inr (2, fs))) {v : Value} (hv : fs[3]? = some v) (K : Z g X nL k n ws lv (v :: st) (pc + 3)) : Z g X nL k n ws lv (.ref a :: st) pc := z_get E rfl inA2 3 (by decide) rfl fl_X2_25 hd q he hv K
theorem pt_X2_25 {g : GC} {X : XC} {cc : ByteArray} {nL k n pc : Nat} {ws : va_W} {lv : List (Nat × Value)} {st : List Value} (E : Ob g X cc nL RX2) (hd : decode cc pc = .ok (.putfield 25, 3)) (q : Nat) {a : Nat} {fs : List Value} (he : ws[q]? = some (a, .inr (2, fs))) (hl : 3 < fs.length) {x : Int32} {ws' : va_W} (hws : ws.set q (a, .inr (2, fs.set 3 (.int x))) = ws') (K : Z g X nL k n ws' lv st (pc + 3)) : Z g X nL k n ws lv (.int x :: .ref a :: st) pc := z_put E tyX2 rfl inA2 tyX2_ok nmX2 3 (by decide) rfl fl_X2_25 rfl hd q he hl rfl rfl hws K
theorem fl_X2_28 : Cond.fieldLink RX2 28 RX2 (TX2 4).2.1 (TX2 4).2.2.1 ∈ lwA := lwA_mem (tb_1 (List.mem_of_getElem? (i := 134) rfl)) rfl
theorem gt_X2_28 {g : GC} {X : XC} {cc : ByteArray} {nL k n pc : Nat} {ws : va_W} {lv : List (Nat × Value)} {st : List Value} (E : Ob g X cc nL RX2) (hd : decode cc pc = .ok (.getfield 28, 3)) (q : Nat) {a : Nat} {fs : List Value} (he : ws[q]? = some (a, .inr (2, fs))) {v : Value} (hv : fs[4]? = some v) (K : Z g X nL k n ws lv (v :: st) (pc + 3)) : Z g X nL k n ws lv (.ref a :: st) pc := z_get E rfl inA2 4 (by decide) rfl fl_X2_28 hd q he hv K
theorem pt_X2_28 {g : GC} {X : XC} {cc : ByteArray} {nL k n pc : Nat} {ws : va_W} {lv : List (Nat × Value)} {st : List Value} (E : Ob g X cc nL RX2) (hd : decode cc pc = .ok (.putfield 28, 3)) (q : Nat) {a : Nat} {fs : List Value} (he : ws[q]? = some (a, .inr (2, fs))) (hl : 4 < fs.length) {x : Int32} {ws' : va_W} (hws : ws.set q (a, .inr (2, fs.set 4 (.int x))) = ws') (K : Z g X nL k n ws' lv st (pc + 3)) : Z g X nL k n ws lv (.int x :: .ref a :: st) pc := z_put E tyX2 rfl inA2 tyX2_ok nmX2 4 (by decide) rfl fl_X2_28 rfl hd q he hl rfl rfl hws K
theorem fl_X3_9 : Cond.fieldLink RX3 9 RX3 (TX3 0).2.1 (TX3 0).2.2.1 ∈ lwA := lwA_mem (tb_1 (List.mem_of_getElem? (i := 26) rfl)) rfl
theorem gt_X3_9 {g : GC} {X : XC} {cc : ByteArray} {nL k n pc : Nat} {ws : va_W} {lv : List (Nat × Value)} {st : List Value} (E : Ob g X cc nL RX3) (hd : decode cc pc = .ok (.getfield 9, 3)) (q : Nat) {a : Nat} {fs : List Value} (he : ws[q]? = some (a, .inr (3, fs))) {v : Value} (hv : fs[0]? = some v) (K : Z g X nL k n ws lv (v :: st) (pc + 3)) : Z g X nL k n ws lv (.ref a :: st) pc := z_get E rfl inA3 0 (by decide) rfl fl_X3_9 hd q he hv K
theorem fl_X3_15 : Cond.fieldLink RX3 15 RX3 (TX3 1).2.1 (TX3 1).2.2.1 ∈ lwA := lwA_mem (tb_1 (List.mem_of_getElem? (i := 27) rfl)) rfl
theorem gt_X3_15 {g : GC} {X : XC} {cc : ByteArray} {nL k n pc : Nat} {ws : va_W} {lv : List (Nat × Value)} {st : List Value} (E : Ob g X cc nL RX3) (hd : decode cc pc = .ok (.getfield 15, 3)) (q : Nat) {a : Nat} {fs : List Value} (he : ws[q]? = some (a, .inr (3, fs))) {v : Value} (hv : fs[1]? = some v) (K : Z g X nL k n ws lv (v :: st) (pc + 3)) : Z g X nL k n ws lv (.ref a :: st) pc := z_get E rfl inA3 1 (by decide) rfl fl_X3_15 hd q he hv K
theorem pt_X3_15 {g : GC} {X : XC} {cc : ByteArray} {nL k n pc : Nat} {ws : va_W} {lv : List (Nat × Value)} {st : List Value} (E : Ob g X cc nL RX3) (hd : decode cc pc = .ok (.putfield 15, 3)) (q : Nat) {a : Nat} {fs : List Value} (he : ws[q]? = some (a, .inr (3, fs))) (hl : 1 < fs.length) {x : Int32} {ws' : va_W} (hws : ws.set q (a, .inr (3, fs.set 1 (.int x))) = ws') (K : Z g X nL k n ws' lv st (pc + 3)) : Z g X nL k n ws lv (.int x :: .ref a :: st) pc := z_put E tyX3 rfl inA3 tyX3_ok nmX3 1 (by decide) rfl fl_X3_15 rfl hd q he hl rfl rfl hws K
theorem fl_X3_24 : Cond.fieldLink RX3 24 RX3 (TX3 6).2.1 (TX3 6).2.2.1 ∈ lwA := lwA_mem (tb_1 (List.mem_of_getElem? (i := 32) rfl)) rfl
theorem gt_X3_24 {g : GC} {X : XC} {cc : ByteArray} {nL k n pc : Nat} {ws : va_W} {lv : List (Nat × Value)} {st : List Value} (E : Ob g X cc nL RX3) (hd : decode cc pc = .ok (.getfield 24, 3)) (q : Nat) {a : Nat} {fs : List Value} (he : ws[q]? = some (a, .inr (3, fs))) {v : Value} (hv : fs[6]? = some v) (K : Z g X nL k n ws lv (v :: st) (pc + 3)) : Z g X nL k n ws lv (.ref a :: st) pc := z_get E rfl inA3 6 (by decide) rfl fl_X3_24 hd q he hv K
theorem pt_X3_24 {g : GC} {X : XC} {cc : ByteArray} {nL k n pc : Nat} {ws : va_W} {lv : List (Nat × Value)} {st : List Value} (E : Ob g X cc nL RX3) (hd : decode cc pc = .ok (.putfield 24, 3)) (q : Nat) {a : Nat} {fs : List Value} (he : ws[q]? = some (a, .inr (3, fs))) (hl : 6 < fs.length) {x : Nat} (hx : x ≤ 1) {ws' : va_W} (hws : ws.set q (a, .inr (3, fs.set 6 (.int (nI x)))) = ws') (K : Z g X nL k n ws' lv st (pc + 3)) : Z g X nL k n ws lv (.int (nI x) :: .ref a :: st) pc := z_put E tyX3 rfl inA3 tyX3_ok nmX3 6 (by decide) rfl fl_X3_24 rfl hd q he hl (narb01 hx) (fit01 hx) hws K
theorem fl_X3_28 : Cond.fieldLink RX3 28 RX3 (TX3 7).2.1 (TX3 7).2.2.1 ∈ lwA := lwA_mem (tb_1 (List.mem_of_getElem? (i := 33) rfl)) rfl
theorem gt_X3_28 {g : GC} {X : XC} {cc : ByteArray} {nL k n pc : Nat} {ws : va_W} {lv : List (Nat × Value)} {st : List Value} (E : Ob g X cc nL RX3) (hd : decode cc pc = .ok (.getfield 28, 3)) (q : Nat) {a : Nat} {fs : List Value} (he : ws[q]? = some (a, .inr (3, fs))) {v : Value} (hv : fs[7]? = some v) (K : Z g X nL k n ws lv (v :: st) (pc + 3)) : Z g X nL k n ws lv (.ref a :: st) pc := z_get E rfl inA3 7 (by decide) rfl fl_X3_28 hd q he hv K
theorem pt_X3_28 {g : GC} {X : XC} {cc : ByteArray} {nL k n pc : Nat} {ws : va_W} {lv : List (Nat × Value)} {st : List Value} (E : Ob g X cc nL RX3) (hd : decode cc pc = .ok (.putfield 28, 3)) (q : Nat) {a : Nat} {fs : List Value} (he : ws[q]? = some (a, .inr (3, fs))) (hl : 7 < fs.length) {x : Nat} (hx : x ≤ 1) {ws' : va_W} (hws : ws.set q (a, .inr (3, fs.set 7 (.int (nI x)))) = ws') (K : Z g X nL k n ws' lv st (pc + 3)) : Z g X nL k n ws lv (.int (nI x) :: .ref a :: st) pc := z_put E tyX3 rfl inA3 tyX3_ok nmX3 7 (by decide) rfl fl_X3_28 rfl hd q he hl (narb01 hx) (fit01 hx) hws K
theorem fl_X3_31 : Cond.fieldLink RX3 31 RX3 (TX3 8).2.1 (TX3 8).2.2.1 ∈ lwA := lwA_mem (tb_1 (List.mem_of_getElem? (i := 34) rfl)) rfl
theorem gt_X3_31 {g : GC} {X : XC} {cc : ByteArray} {nL k n pc : Nat} {ws : va_W} {lv : List (Nat × Value)} {st : List Value} (E : Ob g X cc nL RX3) (hd : decode cc pc = .ok (.getfield 31, 3)) (q : Nat) {a : Nat} {fs : List Value} (he : ws[q]? = some (a, .inr (3, fs))) {v : Value} (hv : fs[8]? = some v) (K : Z g X nL k n ws lv (v :: st) (pc + 3)) : Z g X nL k n ws lv (.ref a :: st) pc := z_get E rfl inA3 8 (by decide) rfl fl_X3_31 hd q he hv K
theorem pt_X3_31 {g : GC} {X : XC} {cc : ByteArray} {nL k n pc : Nat} {ws : va_W} {lv : List (Nat × Value)} {st : List Value} (E : Ob g X cc nL RX3) (hd : decode cc pc = .ok (.putfield 31, 3)) (q : Nat) {a : Nat} {fs : List Value} (he : ws[q]? = some (a, .inr (3, fs))) (hl : 8 < fs.length) {x : Nat} (hx : x ≤ 1) {ws' : va_W} (hws : ws.set q (a, .inr (3, fs.set 8 (.int (nI x)))) = ws') (K : Z g X nL k n ws' lv st (pc + 3)) : Z g X nL k n ws lv (.int (nI x) :: .ref a :: st) pc := z_put E tyX3 rfl inA3 tyX3_ok nmX3 8 (by decide) rfl fl_X3_31 rfl hd q he hl (narb01 hx) (fit01 hx) hws K
theorem fl_X3_34 : Cond.fieldLink RX3 34 RX3 (TX3 2).2.1 (TX3 2).2.2.1 ∈ lwA := lwA_mem (tb_1 (List.mem_of_getElem? (i := 28) rfl)) rfl
theorem gt_X3_34 {g : GC} {X : XC} {cc : ByteArray} {nL k n pc : Nat} {ws : va_W} {lv : List (Nat × Value)} {st : List Value} (E : Ob g X cc nL RX3) (hd : decode cc pc = .ok (.getfield 34, 3)) (q : Nat) {a : Nat} {fs : List Value} (he : ws[q]? = some (a, .inr (3, fs))) {v : Value} (hv : fs[2]? = some v) (K : Z g X nL k n ws lv (v :: st) (pc + 3)) : Z g X nL k n ws lv (.ref a :: st) pc := z_get E rfl inA3 2 (by decide) rfl fl_X3_34 hd q he hv K
theorem pt_X3_34 {g : GC} {X : XC} {cc : ByteArray} {nL k n pc : Nat} {ws : va_W} {lv : List (Nat × Value)} {st : List Value} (E : Ob g X cc nL RX3) (hd : decode cc pc = .ok (.putfield 34, 3)) (q : Nat) {a : Nat} {fs : List Value} (he : ws[q]? = some (a, .inr (3, fs))) (hl : 2 < fs.length) {x : Int32} {ws' : va_W} (hws : ws.set q (a, .inr (3, fs.set 2 (.int x))) = ws') (K : Z g X nL k n ws' lv st (pc + 3)) : Z g X nL k n ws lv (.int x :: .ref a :: st) pc := z_put E tyX3 rfl inA3 tyX3_ok nmX3 2 (by decide) rfl fl_X3_34 rfl hd q he hl rfl rfl hws K
theorem fl_X3_40 : Cond.fieldLink RX3 40 RX3 (TX3 3).2.1 (TX3 3).2.2.1 ∈ lwA := lwA_mem (tb_1 (List.mem_of_getElem? (i := 29) rfl)) rfl
theorem gt_X3_40 {g : GC} {X : XC} {cc : ByteArray} {nL k n pc : Nat} {ws : va_W} {lv : List (Nat × Value)} {st : List Value} (E : Ob g X cc nL RX3) (hd : decode cc pc = .ok (.getfield 40, 3)) (q : Nat) {a : Nat} {fs : List Value} (he : ws[q]? = some (a, .inr (3, fs))) {v : Value} (hv : fs[3]? = some v) (K : Z g X nL k n ws lv (v :: st) (pc + 3)) : Z g X nL k n ws lv (.ref a :: st) pc := z_get E rfl inA3 3 (by decide) rfl fl_X3_40 hd q he hv K
theorem pt_X3_40 {g : GC} {X : XC} {cc : ByteArray} {nL k n pc : Nat} {ws : va_W} {lv : List (Nat × Value)} {st : List Value} (E : Ob g X cc nL RX3) (hd : decode cc pc = .ok (.putfield 40, 3)) (q : Nat) {a : Nat} {fs : List Value} (he : ws[q]? = some (a, .inr (3, fs))) (hl : 3 < fs.length) {x : Int32} {ws' : va_W} (hws : ws.set q (a, .inr (3, fs.set 3 (.int x))) = ws') (K : Z g X nL k n ws' lv st (pc + 3)) : Z g X nL k n ws lv (.int x :: .ref a :: st) pc := z_put E tyX3 rfl inA3 tyX3_ok nmX3 3 (by decide) rfl fl_X3_40 rfl hd q he hl rfl rfl hws K
theorem fl_X3_47 : Cond.fieldLink RX3 47 RX3 (TX3 4).2.1 (TX3 4).2.2.1 ∈ lwA := lwA_mem (tb_1 (List.mem_of_getElem? (i := 30) rfl)) rfl
theorem gt_X3_47 {g : GC} {X : XC} {cc : ByteArray} {nL k n pc : Nat} {ws : va_W} {lv : List (Nat × Value)} {st : List Value} (E : Ob g X cc nL RX3) (hd : decode cc pc = .ok (.getfield 47, 3)) (q : Nat) {a : Nat} {fs : List Value} (he : ws[q]? = some (a, .inr (3, fs))) {v : Value} (hv : fs[4]? = some v) (K : Z g X nL k n ws lv (v :: st) (pc + 3)) : Z g X nL k n ws lv (.ref a :: st) pc := z_get E rfl inA3 4 (by decide) rfl fl_X3_47 hd q he hv K
theorem pt_X3_47 {g : GC} {X : XC} {cc : ByteArray} {nL k n pc : Nat} {ws : va_W} {lv : List (Nat × Value)} {st : List Value} (E : Ob g X cc nL RX3) (hd : decode cc pc = .ok (.putfield 47, 3)) (q : Nat) {a : Nat} {fs : List Value} (he : ws[q]? = some (a, .inr (3, fs))) (hl : 4 < fs.length) {x : Int32} {ws' : va_W} (hws : ws.set q (a, .inr (3, fs.set 4 (.int x))) = ws') (K : Z g X nL k n ws' lv st (pc + 3)) : Z g X nL k n ws lv (.int x :: .ref a :: st) pc := z_put E tyX3 rfl inA3 tyX3_ok nmX3 4 (by decide) rfl fl_X3_47 rfl hd q he hl rfl rfl hws K
theorem fl_X3_58 : Cond.fieldLink RX3 58 RX4 (TX4 1).2.1 (TX4 1).2.2.1 ∈ lwA := lwA_mem (tb_1 (List.mem_of_getElem? (i := 72) rfl)) rfl
theorem gt_X3_58 {g : GC} {X : XC} {cc : ByteArray} {nL k n pc : Nat} {ws : va_W} {lv : List (Nat × Value)} {st : List Value} (E : Ob g X cc nL RX3) (hd : decode cc pc = .ok (.getfield 58, 3)) (q : Nat) {a : Nat} {fs : List Value} (he : ws[q]? = some (a, .inr (4, fs))) {v : Value} (hv : fs[1]? = some v) (K : Z g X nL k n ws lv (v :: st) (pc + 3)) : Z g X nL k n ws lv (.ref a :: st) pc := z_get E rfl inA4 1 (by decide) rfl fl_X3_58 hd q he hv K
theorem pt_X3_58 {g : GC} {X : XC} {cc : ByteArray} {nL k n pc : Nat} {ws : va_W} {lv : List (Nat × Value)} {st : List Value} (E : Ob g X cc nL RX3) (hd : decode cc pc = .ok (.putfield 58, 3)) (q : Nat) {a : Nat} {fs : List Value} (he : ws[q]? = some (a, .inr (4, fs))) (hl : 1 < fs.length) {x : Int32} {ws' : va_W} (hws : ws.set q (a, .inr (4, fs.set 1 (.int x))) = ws') (K : Z g X nL k n ws' lv st (pc + 3)) : Z g X nL k n ws lv (.int x :: .ref a :: st) pc := z_put E tyX4 rfl inA4 tyX4_ok nmX4 1 (by decide) rfl fl_X3_58 rfl hd q he hl rfl rfl hws K
theorem fl_X3_84 : Cond.fieldLink RX3 84 RX4 (TX4 0).2.1 (TX4 0).2.2.1 ∈ lwA := lwA_mem (tb_1 (List.mem_of_getElem? (i := 67) rfl)) rfl
theorem gt_X3_84 {g : GC} {X : XC} {cc : ByteArray} {nL k n pc : Nat} {ws : va_W} {lv : List (Nat × Value)} {st : List Value} (E : Ob g X cc nL RX3) (hd : decode cc pc = .ok (.getfield 84, 3)) (q : Nat) {a : Nat} {fs : List Value} (he : ws[q]? = some (a, .inr (4, fs))) {v : Value} (hv : fs[0]? = some v) (K : Z g X nL k n ws lv (v :: st) (pc + 3)) : Z g X nL k n ws lv (.ref a :: st) pc := z_get E rfl inA4 0 (by decide) rfl fl_X3_84 hd q he hv K
theorem pt_X3_84 {g : GC} {X : XC} {cc : ByteArray} {nL k n pc : Nat} {ws : va_W} {lv : List (Nat × Value)} {st : List Value} (E : Ob g X cc nL RX3) (hd : decode cc pc = .ok (.putfield 84, 3)) (q : Nat) {a : Nat} {fs : List Value} (he : ws[q]? = some (a, .inr (4, fs))) (hl : 0 < fs.length) {x : Int32} {ws' : va_W} (hws : ws.set q (a, .inr (4, fs.set 0 (.int x))) = ws') (K : Z g X nL k n ws' lv st (pc + 3)) : Z g X nL k n ws lv (.int x :: .ref a :: st) pc := z_put E tyX4 rfl inA4 tyX4_ok nmX4 0 (by decide) rfl fl_X3_84 rfl hd q he hl rfl rfl hws K
theorem fl_X3_95 : Cond.fieldLink RX3 95 RX4 (TX4 2).2.1 (TX4 2).2.2.1 ∈ lwA := lwA_mem (tb_1 (List.mem_of_getElem? (i := 76) rfl)) rfl
theorem gt_X3_95 {g : GC} {X : XC} {cc : ByteArray} {nL k n pc : Nat} {ws : va_W} {lv : List (Nat × Value)} {st : List Value} (E : Ob g X cc nL RX3) (hd : decode cc pc = .ok (.getfield 95, 3)) (q : Nat) {a : Nat} {fs : List Value} (he : ws[q]? = some (a, .inr (4, fs))) {v : Value} (hv : fs[2]? = some v) (K : Z g X nL k n ws lv (v :: st) (pc + 3)) : Z g X nL k n ws lv (.ref a :: st) pc := z_get E rfl inA4 2 (by decide) rfl fl_X3_95 hd q he hv K
theorem pt_X3_95 {g : GC} {X : XC} {cc : ByteArray} {nL k n pc : Nat} {ws : va_W} {lv : List (Nat × Value)} {st : List Value} (E : Ob g X cc nL RX3) (hd : decode cc pc = .ok (.putfield 95, 3)) (q : Nat) {a : Nat} {fs : List Value} (he : ws[q]? = some (a, .inr (4, fs))) (hl : 2 < fs.length) {x : Int32} {ws' : va_W} (hws : ws.set q (a, .inr (4, fs.set 2 (.int x))) = ws') (K : Z g X nL k n ws' lv st (pc + 3)) : Z g X nL k n ws lv (.int x :: .ref a :: st) pc := z_put E tyX4 rfl inA4 tyX4_ok nmX4 2 (by decide) rfl fl_X3_95 rfl hd q he hl rfl rfl hws K
theorem fl_X3_98 : Cond.fieldLink RX3 98 RX4 (TX4 3).2.1 (TX4 3).2.2.1 ∈ lwA := lwA_mem (tb_1 (List.mem_of_getElem? (i := 79) rfl)) rfl
theorem gt_X3_98 {g : GC} {X : XC} {cc : ByteArray} {nL k n pc : Nat} {ws : va_W} {lv : List (Nat × Value)} {st : List Value} (E : Ob g X cc nL RX3) (hd : decode cc pc = .ok (.getfield 98, 3)) (q : Nat) {a : Nat} {fs : List Value} (he : ws[q]? = some (a, .inr (4, fs))) {v : Value} (hv : fs[3]? = some v) (K : Z g X nL k n ws lv (v :: st) (pc + 3)) : Z g X nL k n ws lv (.ref a :: st) pc := z_get E rfl inA4 3 (by decide) rfl fl_X3_98 hd q he hv K
theorem pt_X3_98 {g : GC} {X : XC} {cc : ByteArray} {nL k n pc : Nat} {ws : va_W} {lv : List (Nat × Value)} {st : List Value} (E : Ob g X cc nL RX3) (hd : decode cc pc = .ok (.putfield 98, 3)) (q : Nat) {a : Nat} {fs : List Value} (he : ws[q]? = some (a, .inr (4, fs))) (hl : 3 < fs.length) {x : Int32} {ws' : va_W} (hws : ws.set q (a, .inr (4, fs.set 3 (.int x))) = ws') (K : Z g X nL k n ws' lv st (pc + 3)) : Z g X nL k n ws lv (.int x :: .ref a :: st) pc := z_put E tyX4 rfl inA4 tyX4_ok nmX4 3 (by decide) rfl fl_X3_98 rfl hd q he hl rfl rfl hws K
theorem fl_X3_101 : Cond.fieldLink RX3 101 RX4 (TX4 4).2.1 (TX4 4).2.2.1 ∈ lwA := lwA_mem (tb_1 (List.mem_of_getElem? (i := 82) rfl)) rfl
theorem gt_X3_101 {g : GC} {X : XC} {cc : ByteArray} {nL k n pc : Nat} {ws : va_W} {lv : List (Nat × Value)} {st : List Value} (E : Ob g X cc nL RX3) (hd : decode cc pc = .ok (.getfield 101, 3)) (q : Nat) {a : Nat} {fs : List Value} (he : ws[q]? = some (a, .inr (4, fs))) {v : Value} (hv : fs[4]? = some v) (K : Z g X nL k n ws lv (v :: st) (pc + 3)) : Z g X nL k n ws lv (.ref a :: st) pc := z_get E rfl inA4 4 (by decide) rfl fl_X3_101 hd q he hv K
theorem pt_X3_101 {g : GC} {X : XC} {cc : ByteArray} {nL k n pc : Nat} {ws : va_W} {lv : List (Nat × Value)} {st : List Value} (E : Ob g X cc nL RX3) (hd : decode cc pc = .ok (.putfield 101, 3)) (q : Nat) {a : Nat} {fs : List Value} (he : ws[q]? = some (a, .inr (4, fs))) (hl : 4 < fs.length) {x : Int32} {ws' : va_W} (hws : ws.set q (a, .inr (4, fs.set 4 (.int x))) = ws') (K : Z g X nL k n ws' lv st (pc + 3)) : Z g X nL k n ws lv (.int x :: .ref a :: st) pc := z_put E tyX4 rfl inA4 tyX4_ok nmX4 4 (by decide) rfl fl_X3_101 rfl hd q he hl rfl rfl hws K
theorem fl_X3_104 : Cond.fieldLink RX3 104 RX4 (TX4 5).2.1 (TX4 5).2.2.1 ∈ lwA := lwA_mem (tb_1 (List.mem_of_getElem? (i := 85) rfl)) rfl
theorem gt_X3_104 {g : GC} {X : XC} {cc : ByteArray} {nL k n pc : Nat} {ws : va_W} {lv : List (Nat × Value)} {st : List Value} (E : Ob g X cc nL RX3) (hd : decode cc pc = .ok (.getfield 104, 3)) (q : Nat) {a : Nat} {fs : List Value} (he : ws[q]? = some (a, .inr (4, fs))) {v : Value} (hv : fs[5]? = some v) (K : Z g X nL k n ws lv (v :: st) (pc + 3)) : Z g X nL k n ws lv (.ref a :: st) pc := z_get E rfl inA4 5 (by decide) rfl fl_X3_104 hd q he hv K
theorem pt_X3_104 {g : GC} {X : XC} {cc : ByteArray} {nL k n pc : Nat} {ws : va_W} {lv : List (Nat × Value)} {st : List Value} (E : Ob g X cc nL RX3) (hd : decode cc pc = .ok (.putfield 104, 3)) (q : Nat) {a : Nat} {fs : List Value} (he : ws[q]? = some (a, .inr (4, fs))) (hl : 5 < fs.length) {x : Int32} {ws' : va_W} (hws : ws.set q (a, .inr (4, fs.set 5 (.int x))) = ws') (K : Z g X nL k n ws' lv st (pc + 3)) : Z g X nL k n ws lv (.int x :: .ref a :: st) pc := z_put E tyX4 rfl inA4 tyX4_ok nmX4 5 (by decide) rfl fl_X3_104 rfl hd q he hl rfl rfl hws K
theorem fl_X3_107 : Cond.fieldLink RX3 107 RX3 (TX3 5).2.1 (TX3 5).2.2.1 ∈ lwA := lwA_mem (tb_1 (List.mem_of_getElem? (i := 31) rfl)) rfl
theorem gt_X3_107 {g : GC} {X : XC} {cc : ByteArray} {nL k n pc : Nat} {ws : va_W} {lv : List (Nat × Value)} {st : List Value} (E : Ob g X cc nL RX3) (hd : decode cc pc = .ok (.getfield 107, 3)) (q : Nat) {a : Nat} {fs : List Value} (he : ws[q]? = some (a, .inr (3, fs))) {v : Value} (hv : fs[5]? = some v) (K : Z g X nL k n ws lv (v :: st) (pc + 3)) : Z g X nL k n ws lv (.ref a :: st) pc := z_get E rfl inA3 5 (by decide) rfl fl_X3_107 hd q he hv K
theorem pt_X3_107 {g : GC} {X : XC} {cc : ByteArray} {nL k n pc : Nat} {ws : va_W} {lv : List (Nat × Value)} {st : List Value} (E : Ob g X cc nL RX3) (hd : decode cc pc = .ok (.putfield 107, 3)) (q : Nat) {a : Nat} {fs : List Value} (he : ws[q]? = some (a, .inr (3, fs))) (hl : 5 < fs.length) {x : Int32} {ws' : va_W} (hws : ws.set q (a, .inr (3, fs.set 5 (.int x))) = ws') (K : Z g X nL k n ws' lv st (pc + 3)) : Z g X nL k n ws lv (.int x :: .ref a :: st) pc := z_put E tyX3 rfl inA3 tyX3_ok nmX3 5 (by decide) rfl fl_X3_107 rfl hd q he hl rfl rfl hws K
theorem fl_X4_9 : Cond.fieldLink RX4 9 RX4 (TX4 6).2.1 (TX4 6).2.2.1 ∈ lwA := lwA_mem (tb_1 (List.mem_of_getElem? (i := 87) rfl)) rfl
theorem gt_X4_9 {g : GC} {X : XC} {cc : ByteArray} {nL k n pc : Nat} {ws : va_W} {lv : List (Nat × Value)} {st : List Value} (E : Ob g X cc nL RX4) (hd : decode cc pc = .ok (.getfield 9, 3)) (q : Nat) {a : Nat} {fs : List Value} (he : ws[q]? = some (a, .inr (4, fs))) {v : Value} (hv : fs[6]? = some v) (K : Z g X nL k n ws lv (v :: st) (pc + 3)) : Z g X nL k n ws lv (.ref a :: st) pc := z_get E rfl inA4 6 (by decide) rfl fl_X4_9 hd q he hv K
theorem fl_X4_15 : Cond.fieldLink RX4 15 RX4 (TX4 7).2.1 (TX4 7).2.2.1 ∈ lwA := lwA_mem (tb_1 (List.mem_of_getElem? (i := 90) rfl)) rfl
theorem gt_X4_15 {g : GC} {X : XC} {cc : ByteArray} {nL k n pc : Nat} {ws : va_W} {lv : List (Nat × Value)} {st : List Value} (E : Ob g X cc nL RX4) (hd : decode cc pc = .ok (.getfield 15, 3)) (q : Nat) {a : Nat} {fs : List Value} (he : ws[q]? = some (a, .inr (4, fs))) {v : Value} (hv : fs[7]? = some v) (K : Z g X nL k n ws lv (v :: st) (pc + 3)) : Z g X nL k n ws lv (.ref a :: st) pc := z_get E rfl inA4 7 (by decide) rfl fl_X4_15 hd q he hv K
theorem fl_X4_18 : Cond.fieldLink RX4 18 RX4 (TX4 8).2.1 (TX4 8).2.2.1 ∈ lwA := lwA_mem (tb_1 (List.mem_of_getElem? (i := 93) rfl)) rfl
theorem gt_X4_18 {g : GC} {X : XC} {cc : ByteArray} {nL k n pc : Nat} {ws : va_W} {lv : List (Nat × Value)} {st : List Value} (E : Ob g X cc nL RX4) (hd : decode cc pc = .ok (.getfield 18, 3)) (q : Nat) {a : Nat} {fs : List Value} (he : ws[q]? = some (a, .inr (4, fs))) {v : Value} (hv : fs[8]? = some v) (K : Z g X nL k n ws lv (v :: st) (pc + 3)) : Z g X nL k n ws lv (.ref a :: st) pc := z_get E rfl inA4 8 (by decide) rfl fl_X4_18 hd q he hv K
theorem fl_X4_21 : Cond.fieldLink RX4 21 RX4 (TX4 9).2.1 (TX4 9).2.2.1 ∈ lwA := lwA_mem (tb_1 (List.mem_of_getElem? (i := 96) rfl)) rfl
theorem gt_X4_21 {g : GC} {X : XC} {cc : ByteArray} {nL k n pc : Nat} {ws : va_W} {lv : List (Nat × Value)} {st : List Value} (E : Ob g X cc nL RX4) (hd : decode cc pc = .ok (.getfield 21, 3)) (q : Nat) {a : Nat} {fs : List Value} (he : ws[q]? = some (a, .inr (4, fs))) {v : Value} (hv : fs[9]? = some v) (K : Z g X nL k n ws lv (v :: st) (pc + 3)) : Z g X nL k n ws lv (.ref a :: st) pc := z_get E rfl inA4 9 (by decide) rfl fl_X4_21 hd q he hv K
theorem fl_X4_27 : Cond.fieldLink RX4 27 RX4 (TX4 0).2.1 (TX4 0).2.2.1 ∈ lwA := lwA_mem (tb_1 (List.mem_of_getElem? (i := 65) rfl)) rfl
theorem gt_X4_27 {g : GC} {X : XC} {cc : ByteArray} {nL k n pc : Nat} {ws : va_W} {lv : List (Nat × Value)} {st : List Value} (E : Ob g X cc nL RX4) (hd : decode cc pc = .ok (.getfield 27, 3)) (q : Nat) {a : Nat} {fs : List Value} (he : ws[q]? = some (a, .inr (4, fs))) {v : Value} (hv : fs[0]? = some v) (K : Z g X nL k n ws lv (v :: st) (pc + 3)) : Z g X nL k n ws lv (.ref a :: st) pc := z_get E rfl inA4 0 (by decide) rfl fl_X4_27 hd q he hv K
theorem pt_X4_27 {g : GC} {X : XC} {cc : ByteArray} {nL k n pc : Nat} {ws : va_W} {lv : List (Nat × Value)} {st : List Value} (E : Ob g X cc nL RX4) (hd : decode cc pc = .ok (.putfield 27, 3)) (q : Nat) {a : Nat} {fs : List Value} (he : ws[q]? = some (a, .inr (4, fs))) (hl : 0 < fs.length) {x : Int32} {ws' : va_W} (hws : ws.set q (a, .inr (4, fs.set 0 (.int x))) = ws') (K : Z g X nL k n ws' lv st (pc + 3)) : Z g X nL k n ws lv (.int x :: .ref a :: st) pc := z_put E tyX4 rfl inA4 tyX4_ok nmX4 0 (by decide) rfl fl_X4_27 rfl hd q he hl rfl rfl hws K
theorem fl_X4_31 : Cond.fieldLink RX4 31 RX4 (TX4 1).2.1 (TX4 1).2.2.1 ∈ lwA := lwA_mem (tb_1 (List.mem_of_getElem? (i := 69) rfl)) rfl
theorem gt_X4_31 {g : GC} {X : XC} {cc : ByteArray} {nL k n pc : Nat} {ws : va_W} {lv : List (Nat × Value)} {st : List Value} (E : Ob g X cc nL RX4) (hd : decode cc pc = .ok (.getfield 31, 3)) (q : Nat) {a : Nat} {fs : List Value} (he : ws[q]? = some (a, .inr (4, fs))) {v : Value} (hv : fs[1]? = some v) (K : Z g X nL k n ws lv (v :: st) (pc + 3)) : Z g X nL k n ws lv (.ref a :: st) pc := z_get E rfl inA4 1 (by decide) rfl fl_X4_31 hd q he hv K
theorem pt_X4_31 {g : GC} {X : XC} {cc : ByteArray} {nL k n pc : Nat} {ws : va_W} {lv : List (Nat × Value)} {st : List Value} (E : Ob g X cc nL RX4) (hd : decode cc pc = .ok (.putfield 31, 3)) (q : Nat) {a : Nat} {fs : List Value} (he : ws[q]? = some (a, .inr (4, fs))) (hl : 1 < fs.length) {x : Int32} {ws' : va_W} (hws : ws.set q (a, .inr (4, fs.set 1 (.int x))) = ws') (K : Z g X nL k n ws' lv st (pc + 3)) : Z g X nL k n ws lv (.int x :: .ref a :: st) pc := z_put E tyX4 rfl inA4 tyX4_ok nmX4 1 (by decide) rfl fl_X4_31 rfl hd q he hl rfl rfl hws K
theorem fl_X4_34 : Cond.fieldLink RX4 34 RX4 (TX4 2).2.1 (TX4 2).2.2.1 ∈ lwA := lwA_mem (tb_1 (List.mem_of_getElem? (i := 75) rfl)) rfl
theorem gt_X4_34 {g : GC} {X : XC} {cc : ByteArray} {nL k n pc : Nat} {ws : va_W} {lv : List (Nat × Value)} {st : List Value} (E : Ob g X cc nL RX4) (hd : decode cc pc = .ok (.getfield 34, 3)) (q : Nat) {a : Nat} {fs : List Value} (he : ws[q]? = some (a, .inr (4, fs))) {v : Value} (hv : fs[2]? = some v) (K : Z g X nL k n ws lv (v :: st) (pc + 3)) : Z g X nL k n ws lv (.ref a :: st) pc := z_get E rfl inA4 2 (by decide) rfl fl_X4_34 hd q he hv K
theorem pt_X4_34 {g : GC} {X : XC} {cc : ByteArray} {nL k n pc : Nat} {ws : va_W} {lv : List (Nat × Value)} {st : List Value} (E : Ob g X cc nL RX4) (hd : decode cc pc = .ok (.putfield 34, 3)) (q : Nat) {a : Nat} {fs : List Value} (he : ws[q]? = some (a, .inr (4, fs))) (hl : 2 < fs.length) {x : Int32} {ws' : va_W} (hws : ws.set q (a, .inr (4, fs.set 2 (.int x))) = ws') (K : Z g X nL k n ws' lv st (pc + 3)) : Z g X nL k n ws lv (.int x :: .ref a :: st) pc := z_put E tyX4 rfl inA4 tyX4_ok nmX4 2 (by decide) rfl fl_X4_34 rfl hd q he hl rfl rfl hws K
theorem fl_X4_37 : Cond.fieldLink RX4 37 RX4 (TX4 3).2.1 (TX4 3).2.2.1 ∈ lwA := lwA_mem (tb_1 (List.mem_of_getElem? (i := 77) rfl)) rfl
theorem gt_X4_37 {g : GC} {X : XC} {cc : ByteArray} {nL k n pc : Nat} {ws : va_W} {lv : List (Nat × Value)} {st : List Value} (E : Ob g X cc nL RX4) (hd : decode cc pc = .ok (.getfield 37, 3)) (q : Nat) {a : Nat} {fs : List Value} (he : ws[q]? = some (a, .inr (4, fs))) {v : Value} (hv : fs[3]? = some v) (K : Z g X nL k n ws lv (v :: st) (pc + 3)) : Z g X nL k n ws lv (.ref a :: st) pc := z_get E rfl inA4 3 (by decide) rfl fl_X4_37 hd q he hv K
theorem pt_X4_37 {g : GC} {X : XC} {cc : ByteArray} {nL k n pc : Nat} {ws : va_W} {lv : List (Nat × Value)} {st : List Value} (E : Ob g X cc nL RX4) (hd : decode cc pc = .ok (.putfield 37, 3)) (q : Nat) {a : Nat} {fs : List Value} (he : ws[q]? = some (a, .inr (4, fs))) (hl : 3 < fs.length) {x : Int32} {ws' : va_W} (hws : ws.set q (a, .inr (4, fs.set 3 (.int x))) = ws') (K : Z g X nL k n ws' lv st (pc + 3)) : Z g X nL k n ws lv (.int x :: .ref a :: st) pc := z_put E tyX4 rfl inA4 tyX4_ok nmX4 3 (by decide) rfl fl_X4_37 rfl hd q he hl rfl rfl hws K
theorem fl_X4_40 : Cond.fieldLink RX4 40 RX4 (TX4 4).2.1 (TX4 4).2.2.1 ∈ lwA := lwA_mem (tb_1 (List.mem_of_getElem? (i := 81) rfl)) rfl
theorem gt_X4_40 {g : GC} {X : XC} {cc : ByteArray} {nL k n pc : Nat} {ws : va_W} {lv : List (Nat × Value)} {st : List Value} (E : Ob g X cc nL RX4) (hd : decode cc pc = .ok (.getfield 40, 3)) (q : Nat) {a : Nat} {fs : List Value} (he : ws[q]? = some (a, .inr (4, fs))) {v : Value} (hv : fs[4]? = some v) (K : Z g X nL k n ws lv (v :: st) (pc + 3)) : Z g X nL k n ws lv (.ref a :: st) pc := z_get E rfl inA4 4 (by decide) rfl fl_X4_40 hd q he hv K
theorem pt_X4_40 {g : GC} {X : XC} {cc : ByteArray} {nL k n pc : Nat} {ws : va_W} {lv : List (Nat × Value)} {st : List Value} (E : Ob g X cc nL RX4) (hd : decode cc pc = .ok (.putfield 40, 3)) (q : Nat) {a : Nat} {fs : List Value} (he : ws[q]? = some (a, .inr (4, fs))) (hl : 4 < fs.length) {x : Int32} {ws' : va_W} (hws : ws.set q (a, .inr (4, fs.set 4 (.int x))) = ws') (K : Z g X nL k n ws' lv st (pc + 3)) : Z g X nL k n ws lv (.int x :: .ref a :: st) pc := z_put E tyX4 rfl inA4 tyX4_ok nmX4 4 (by decide) rfl fl_X4_40 rfl hd q he hl rfl rfl hws K
theorem fl_X4_43 : Cond.fieldLink RX4 43 RX4 (TX4 5).2.1 (TX4 5).2.2.1 ∈ lwA := lwA_mem (tb_1 (List.mem_of_getElem? (i := 84) rfl)) rfl
theorem gt_X4_43 {g : GC} {X : XC} {cc : ByteArray} {nL k n pc : Nat} {ws : va_W} {lv : List (Nat × Value)} {st : List Value} (E : Ob g X cc nL RX4) (hd : decode cc pc = .ok (.getfield 43, 3)) (q : Nat) {a : Nat} {fs : List Value} (he : ws[q]? = some (a, .inr (4, fs))) {v : Value} (hv : fs[5]? = some v) (K : Z g X nL k n ws lv (v :: st) (pc + 3)) : Z g X nL k n ws lv (.ref a :: st) pc := z_get E rfl inA4 5 (by decide) rfl fl_X4_43 hd q he hv K
theorem pt_X4_43 {g : GC} {X : XC} {cc : ByteArray} {nL k n pc : Nat} {ws : va_W} {lv : List (Nat × Value)} {st : List Value} (E : Ob g X cc nL RX4) (hd : decode cc pc = .ok (.putfield 43, 3)) (q : Nat) {a : Nat} {fs : List Value} (he : ws[q]? = some (a, .inr (4, fs))) (hl : 5 < fs.length) {x : Int32} {ws' : va_W} (hws : ws.set q (a, .inr (4, fs.set 5 (.int x))) = ws') (K : Z g X nL k n ws' lv st (pc + 3)) : Z g X nL k n ws lv (.int x :: .ref a :: st) pc := z_put E tyX4 rfl inA4 tyX4_ok nmX4 5 (by decide) rfl fl_X4_43 rfl hd q he hl rfl rfl hws K
theorem fl_X5_12 : Cond.fieldLink RX5 12 RX5 (TX5 0).2.1 (TX5 0).2.2.1 ∈ lwA := lwA_mem (tb_1 (List.mem_of_getElem? (i := 179) rfl)) rfl
theorem gt_X5_12 {g : GC} {X : XC} {cc : ByteArray} {nL k n pc : Nat} {ws : va_W} {lv : List (Nat × Value)} {st : List Value} (E : Ob g X cc nL RX5) (hd : decode cc pc = .ok (.getfield 12, 3)) (q : Nat) {a : Nat} {fs : List Value} (he : ws[q]? = some (a, .inr (5, fs))) {v : Value} (hv : fs[0]? = some v) (K : Z g X nL k n ws lv (v :: st) (pc + 3)) : Z g X nL k n ws lv (.ref a :: st) pc := z_get E rfl inA5 0 (by decide) rfl fl_X5_12 hd q he hv K
theorem pt_X5_12 {g : GC} {X : XC} {cc : ByteArray} {nL k n pc : Nat} {ws : va_W} {lv : List (Nat × Value)} {st : List Value} (E : Ob g X cc nL RX5) (hd : decode cc pc = .ok (.putfield 12, 3)) (q : Nat) {a : Nat} {fs : List Value} (he : ws[q]? = some (a, .inr (5, fs))) (hl : 0 < fs.length) {x : Nat} {ws' : va_W} (hws : ws.set q (a, .inr (5, fs.set 0 (.ref x))) = ws') (K : Z g X nL k n ws' lv st (pc + 3)) : Z g X nL k n ws lv (.ref x :: .ref a :: st) pc := z_put E tyX5 rfl inA5 tyX5_ok nmX5 0 (by decide) rfl fl_X5_12 rfl hd q he hl rfl rfl hws K
theorem fl_X5_18 : Cond.fieldLink RX5 18 RX5 (TX5 2).2.1 (TX5 2).2.2.1 ∈ lwA := lwA_mem (tb_1 (List.mem_of_getElem? (i := 181) rfl)) rfl
theorem gt_X5_18 {g : GC} {X : XC} {cc : ByteArray} {nL k n pc : Nat} {ws : va_W} {lv : List (Nat × Value)} {st : List Value} (E : Ob g X cc nL RX5) (hd : decode cc pc = .ok (.getfield 18, 3)) (q : Nat) {a : Nat} {fs : List Value} (he : ws[q]? = some (a, .inr (5, fs))) {v : Value} (hv : fs[2]? = some v) (K : Z g X nL k n ws lv (v :: st) (pc + 3)) : Z g X nL k n ws lv (.ref a :: st) pc := z_get E rfl inA5 2 (by decide) rfl fl_X5_18 hd q he hv K
theorem fl_X5_22 : Cond.fieldLink RX5 22 RX5 (TX5 3).2.1 (TX5 3).2.2.1 ∈ lwA := lwA_mem (tb_1 (List.mem_of_getElem? (i := 182) rfl)) rfl
theorem gt_X5_22 {g : GC} {X : XC} {cc : ByteArray} {nL k n pc : Nat} {ws : va_W} {lv : List (Nat × Value)} {st : List Value} (E : Ob g X cc nL RX5) (hd : decode cc pc = .ok (.getfield 22, 3)) (q : Nat) {a : Nat} {fs : List Value} (he : ws[q]? = some (a, .inr (5, fs))) {v : Value} (hv : fs[3]? = some v) (K : Z g X nL k n ws lv (v :: st) (pc + 3)) : Z g X nL k n ws lv (.ref a :: st) pc := z_get E rfl inA5 3 (by decide) rfl fl_X5_22 hd q he hv K
theorem fl_X5_25 : Cond.fieldLink RX5 25 RX5 (TX5 4).2.1 (TX5 4).2.2.1 ∈ lwA := lwA_mem (tb_1 (List.mem_of_getElem? (i := 183) rfl)) rfl
theorem gt_X5_25 {g : GC} {X : XC} {cc : ByteArray} {nL k n pc : Nat} {ws : va_W} {lv : List (Nat × Value)} {st : List Value} (E : Ob g X cc nL RX5) (hd : decode cc pc = .ok (.getfield 25, 3)) (q : Nat) {a : Nat} {fs : List Value} (he : ws[q]? = some (a, .inr (5, fs))) {v : Value} (hv : fs[4]? = some v) (K : Z g X nL k n ws lv (v :: st) (pc + 3)) : Z g X nL k n ws lv (.ref a :: st) pc := z_get E rfl inA5 4 (by decide) rfl fl_X5_25 hd q he hv K
theorem fl_X5_29 : Cond.fieldLink RX5 29 RX5 (TX5 5).2.1 (TX5 5).2.2.1 ∈ lwA := lwA_mem (tb_1 (List.mem_of_getElem? (i := 184) rfl)) rfl
theorem gt_X5_29 {g : GC} {X : XC} {cc : ByteArray} {nL k n pc : Nat} {ws : va_W} {lv : List (Nat × Value)} {st : List Value} (E : Ob g X cc nL RX5) (hd : decode cc pc = .ok (.getfield 29, 3)) (q : Nat) {a : Nat} {fs : List Value} (he : ws[q]? = some (a, .inr (5, fs))) {v : Value} (hv : fs[5]? = some v) (K : Z g X nL k n ws lv (v :: st) (pc + 3)) : Z g X nL k n ws lv (.ref a :: st) pc := z_get E rfl inA5 5 (by decide) rfl fl_X5_29 hd q he hv K
theorem fl_X5_32 : Cond.fieldLink RX5 32 RX5 (TX5 6).2.1 (TX5 6).2.2.1 ∈ lwA := lwA_mem (tb_1 (List.mem_of_getElem? (i := 185) rfl)) rfl
theorem gt_X5_32 {g : GC} {X : XC} {cc : ByteArray} {nL k n pc : Nat} {ws : va_W} {lv : List (Nat × Value)} {st : List Value} (E : Ob g X cc nL RX5) (hd : decode cc pc = .ok (.getfield 32, 3)) (q : Nat) {a : Nat} {fs : List Value} (he : ws[q]? = some (a, .inr (5, fs))) {v : Value} (hv : fs[6]? = some v) (K : Z g X nL k n ws lv (v :: st) (pc + 3)) : Z g X nL k n ws lv (.ref a :: st) pc := z_get E rfl inA5 6 (by decide) rfl fl_X5_32 hd q he hv K
theorem fl_X5_39 : Cond.fieldLink RX5 39 RX2 (TX2 4).2.1 (TX2 4).2.2.1 ∈ lwA := lwA_mem (tb_1 (List.mem_of_getElem? (i := 133) rfl)) rfl
theorem gt_X5_39 {g : GC} {X : XC} {cc : ByteArray} {nL k n pc : Nat} {ws : va_W} {lv : List (Nat × Value)} {st : List Value} (E : Ob g X cc nL RX5) (hd : decode cc pc = .ok (.getfield 39, 3)) (q : Nat) {a : Nat} {fs : List Value} (he : ws[q]? = some (a, .inr (2, fs))) {v : Value} (hv : fs[4]? = some v) (K : Z g X nL k n ws lv (v :: st) (pc + 3)) : Z g X nL k n ws lv (.ref a :: st) pc := z_get E rfl inA2 4 (by decide) rfl fl_X5_39 hd q he hv K
theorem pt_X5_39 {g : GC} {X : XC} {cc : ByteArray} {nL k n pc : Nat} {ws : va_W} {lv : List (Nat × Value)} {st : List Value} (E : Ob g X cc nL RX5) (hd : decode cc pc = .ok (.putfield 39, 3)) (q : Nat) {a : Nat} {fs : List Value} (he : ws[q]? = some (a, .inr (2, fs))) (hl : 4 < fs.length) {x : Int32} {ws' : va_W} (hws : ws.set q (a, .inr (2, fs.set 4 (.int x))) = ws') (K : Z g X nL k n ws' lv st (pc + 3)) : Z g X nL k n ws lv (.int x :: .ref a :: st) pc := z_put E tyX2 rfl inA2 tyX2_ok nmX2 4 (by decide) rfl fl_X5_39 rfl hd q he hl rfl rfl hws K
theorem fl_X5_45 : Cond.fieldLink RX5 45 RX5 (TX5 1).2.1 (TX5 1).2.2.1 ∈ lwA := lwA_mem (tb_1 (List.mem_of_getElem? (i := 180) rfl)) rfl
theorem gt_X5_45 {g : GC} {X : XC} {cc : ByteArray} {nL k n pc : Nat} {ws : va_W} {lv : List (Nat × Value)} {st : List Value} (E : Ob g X cc nL RX5) (hd : decode cc pc = .ok (.getfield 45, 3)) (q : Nat) {a : Nat} {fs : List Value} (he : ws[q]? = some (a, .inr (5, fs))) {v : Value} (hv : fs[1]? = some v) (K : Z g X nL k n ws lv (v :: st) (pc + 3)) : Z g X nL k n ws lv (.ref a :: st) pc := z_get E rfl inA5 1 (by decide) rfl fl_X5_45 hd q he hv K
theorem pt_X5_45 {g : GC} {X : XC} {cc : ByteArray} {nL k n pc : Nat} {ws : va_W} {lv : List (Nat × Value)} {st : List Value} (E : Ob g X cc nL RX5) (hd : decode cc pc = .ok (.putfield 45, 3)) (q : Nat) {a : Nat} {fs : List Value} (he : ws[q]? = some (a, .inr (5, fs))) (hl : 1 < fs.length) {x : Int32} {ws' : va_W} (hws : ws.set q (a, .inr (5, fs.set 1 (.int x))) = ws') (K : Z g X nL k n ws' lv st (pc + 3)) : Z g X nL k n ws lv (.int x :: .ref a :: st) pc := z_put E tyX5 rfl inA5 tyX5_ok nmX5 1 (by decide) rfl fl_X5_45 rfl hd q he hl rfl rfl hws K
theorem fl_X5_48 : Cond.fieldLink RX5 48 RX4 (TX4 1).2.1 (TX4 1).2.2.1 ∈ lwA := lwA_mem (tb_1 (List.mem_of_getElem? (i := 70) rfl)) rfl
theorem gt_X5_48 {g : GC} {X : XC} {cc : ByteArray} {nL k n pc : Nat} {ws : va_W} {lv : List (Nat × Value)} {st : List Value} (E : Ob g X cc nL RX5) (hd : decode cc pc = .ok (.getfield 48, 3)) (q : Nat) {a : Nat} {fs : List Value} (he : ws[q]? = some (a, .inr (4, fs))) {v : Value} (hv : fs[1]? = some v) (K : Z g X nL k n ws lv (v :: st) (pc + 3)) : Z g X nL k n ws lv (.ref a :: st) pc := z_get E rfl inA4 1 (by decide) rfl fl_X5_48 hd q he hv K
theorem pt_X5_48 {g : GC} {X : XC} {cc : ByteArray} {nL k n pc : Nat} {ws : va_W} {lv : List (Nat × Value)} {st : List Value} (E : Ob g X cc nL RX5) (hd : decode cc pc = .ok (.putfield 48, 3)) (q : Nat) {a : Nat} {fs : List Value} (he : ws[q]? = some (a, .inr (4, fs))) (hl : 1 < fs.length) {x : Int32} {ws' : va_W} (hws : ws.set q (a, .inr (4, fs.set 1 (.int x))) = ws') (K : Z g X nL k n ws' lv st (pc + 3)) : Z g X nL k n ws lv (.int x :: .ref a :: st) pc := z_put E tyX4 rfl inA4 tyX4_ok nmX4 1 (by decide) rfl fl_X5_48 rfl hd q he hl rfl rfl hws K
theorem fl_X5_51 : Cond.fieldLink RX5 51 RX4 (TX4 8).2.1 (TX4 8).2.2.1 ∈ lwA := lwA_mem (tb_1 (List.mem_of_getElem? (i := 94) rfl)) rfl
theorem gt_X5_51 {g : GC} {X : XC} {cc : ByteArray} {nL k n pc : Nat} {ws : va_W} {lv : List (Nat × Value)} {st : List Value} (E : Ob g X cc nL RX5) (hd : decode cc pc = .ok (.getfield 51, 3)) (q : Nat) {a : Nat} {fs : List Value} (he : ws[q]? = some (a, .inr (4, fs))) {v : Value} (hv : fs[8]? = some v) (K : Z g X nL k n ws lv (v :: st) (pc + 3)) : Z g X nL k n ws lv (.ref a :: st) pc := z_get E rfl inA4 8 (by decide) rfl fl_X5_51 hd q he hv K
theorem fl_X5_54 : Cond.fieldLink RX5 54 RX2 (TX2 5).2.1 (TX2 5).2.2.1 ∈ lwA := lwA_mem (tb_1 (List.mem_of_getElem? (i := 137) rfl)) rfl
theorem gt_X5_54 {g : GC} {X : XC} {cc : ByteArray} {nL k n pc : Nat} {ws : va_W} {lv : List (Nat × Value)} {st : List Value} (E : Ob g X cc nL RX5) (hd : decode cc pc = .ok (.getfield 54, 3)) (q : Nat) {a : Nat} {fs : List Value} (he : ws[q]? = some (a, .inr (2, fs))) {v : Value} (hv : fs[5]? = some v) (K : Z g X nL k n ws lv (v :: st) (pc + 3)) : Z g X nL k n ws lv (.ref a :: st) pc := z_get E rfl inA2 5 (by decide) rfl fl_X5_54 hd q he hv K
theorem fl_X5_60 : Cond.fieldLink RX5 60 RX5 (TX5 7).2.1 (TX5 7).2.2.1 ∈ lwA := lwA_mem (tb_1 (List.mem_of_getElem? (i := 187) rfl)) rfl
theorem gt_X5_60 {g : GC} {X : XC} {cc : ByteArray} {nL k n pc : Nat} {ws : va_W} {lv : List (Nat × Value)} {st : List Value} (E : Ob g X cc nL RX5) (hd : decode cc pc = .ok (.getfield 60, 3)) (q : Nat) {a : Nat} {fs : List Value} (he : ws[q]? = some (a, .inr (5, fs))) {v : Value} (hv : fs[7]? = some v) (K : Z g X nL k n ws lv (v :: st) (pc + 3)) : Z g X nL k n ws lv (.ref a :: st) pc := z_get E rfl inA5 7 (by decide) rfl fl_X5_60 hd q he hv K
theorem pt_X5_60 {g : GC} {X : XC} {cc : ByteArray} {nL k n pc : Nat} {ws : va_W} {lv : List (Nat × Value)} {st : List Value} (E : Ob g X cc nL RX5) (hd : decode cc pc = .ok (.putfield 60, 3)) (q : Nat) {a : Nat} {fs : List Value} (he : ws[q]? = some (a, .inr (5, fs))) (hl : 7 < fs.length) {x : Int32} {ws' : va_W} (hws : ws.set q (a, .inr (5, fs.set 7 (.int x))) = ws') (K : Z g X nL k n ws' lv st (pc + 3)) : Z g X nL k n ws lv (.int x :: .ref a :: st) pc := z_put E tyX5 rfl inA5 tyX5_ok nmX5 7 (by decide) rfl fl_X5_60 rfl hd q he hl rfl rfl hws K
theorem fl_X5_67 : Cond.fieldLink RX5 67 RX4 (TX4 3).2.1 (TX4 3).2.2.1 ∈ lwA := lwA_mem (tb_1 (List.mem_of_getElem? (i := 78) rfl)) rfl
theorem gt_X5_67 {g : GC} {X : XC} {cc : ByteArray} {nL k n pc : Nat} {ws : va_W} {lv : List (Nat × Value)} {st : List Value} (E : Ob g X cc nL RX5) (hd : decode cc pc = .ok (.getfield 67, 3)) (q : Nat) {a : Nat} {fs : List Value} (he : ws[q]? = some (a, .inr (4, fs))) {v : Value} (hv : fs[3]? = some v) (K : Z g X nL k n ws lv (v :: st) (pc + 3)) : Z g X nL k n ws lv (.ref a :: st) pc := z_get E rfl inA4 3 (by decide) rfl fl_X5_67 hd q he hv K
theorem pt_X5_67 {g : GC} {X : XC} {cc : ByteArray} {nL k n pc : Nat} {ws : va_W} {lv : List (Nat × Value)} {st : List Value} (E : Ob g X cc nL RX5) (hd : decode cc pc = .ok (.putfield 67, 3)) (q : Nat) {a : Nat} {fs : List Value} (he : ws[q]? = some (a, .inr (4, fs))) (hl : 3 < fs.length) {x : Int32} {ws' : va_W} (hws : ws.set q (a, .inr (4, fs.set 3 (.int x))) = ws') (K : Z g X nL k n ws' lv st (pc + 3)) : Z g X nL k n ws lv (.int x :: .ref a :: st) pc := z_put E tyX4 rfl inA4 tyX4_ok nmX4 3 (by decide) rfl fl_X5_67 rfl hd q he hl rfl rfl hws K
theorem fl_X5_91 : Cond.fieldLink RX5 91 RX4 (TX4 6).2.1 (TX4 6).2.2.1 ∈ lwA := lwA_mem (tb_1 (List.mem_of_getElem? (i := 89) rfl)) rfl
theorem gt_X5_91 {g : GC} {X : XC} {cc : ByteArray} {nL k n pc : Nat} {ws : va_W} {lv : List (Nat × Value)} {st : List Value} (E : Ob g X cc nL RX5) (hd : decode cc pc = .ok (.getfield 91, 3)) (q : Nat) {a : Nat} {fs : List Value} (he : ws[q]? = some (a, .inr (4, fs))) {v : Value} (hv : fs[6]? = some v) (K : Z g X nL k n ws lv (v :: st) (pc + 3)) : Z g X nL k n ws lv (.ref a :: st) pc := z_get E rfl inA4 6 (by decide) rfl fl_X5_91 hd q he hv K
theorem fl_X5_94 : Cond.fieldLink RX5 94 RX4 (TX4 7).2.1 (TX4 7).2.2.1 ∈ lwA := lwA_mem (tb_1 (List.mem_of_getElem? (i := 92) rfl)) rfl
theorem gt_X5_94 {g : GC} {X : XC} {cc : ByteArray} {nL k n pc : Nat} {ws : va_W} {lv : List (Nat × Value)} {st : List Value} (E : Ob g X cc nL RX5) (hd : decode cc pc = .ok (.getfield 94, 3)) (q : Nat) {a : Nat} {fs : List Value} (he : ws[q]? = some (a, .inr (4, fs))) {v : Value} (hv : fs[7]? = some v) (K : Z g X nL k n ws lv (v :: st) (pc + 3)) : Z g X nL k n ws lv (.ref a :: st) pc := z_get E rfl inA4 7 (by decide) rfl fl_X5_94 hd q he hv K
theorem fl_X5_110 : Cond.fieldLink RX5 110 RX5 (TX5 8).2.1 (TX5 8).2.2.1 ∈ lwA := lwA_mem (tb_1 (List.mem_of_getElem? (i := 190) rfl)) rfl
theorem gt_X5_110 {g : GC} {X : XC} {cc : ByteArray} {nL k n pc : Nat} {ws : va_W} {lv : List (Nat × Value)} {st : List Value} (E : Ob g X cc nL RX5) (hd : decode cc pc = .ok (.getfield 110, 3)) (q : Nat) {a : Nat} {fs : List Value} (he : ws[q]? = some (a, .inr (5, fs))) {v : Value} (hv : fs[8]? = some v) (K : Z g X nL k n ws lv (v :: st) (pc + 3)) : Z g X nL k n ws lv (.ref a :: st) pc := z_get E rfl inA5 8 (by decide) rfl fl_X5_110 hd q he hv K
theorem pt_X5_110 {g : GC} {X : XC} {cc : ByteArray} {nL k n pc : Nat} {ws : va_W} {lv : List (Nat × Value)} {st : List Value} (E : Ob g X cc nL RX5) (hd : decode cc pc = .ok (.putfield 110, 3)) (q : Nat) {a : Nat} {fs : List Value} (he : ws[q]? = some (a, .inr (5, fs))) (hl : 8 < fs.length) {x : Int32} {ws' : va_W} (hws : ws.set q (a, .inr (5, fs.set 8 (.int x))) = ws') (K : Z g X nL k n ws' lv st (pc + 3)) : Z g X nL k n ws lv (.int x :: .ref a :: st) pc := z_put E tyX5 rfl inA5 tyX5_ok nmX5 8 (by decide) rfl fl_X5_110 rfl hd q he hl rfl rfl hws K
theorem fl_X7_7 : Cond.fieldLink RX7 7 RX7 (TX7 2).2.1 (TX7 2).2.2.1 ∈ lwA := lwA_mem (tb_3 (List.mem_of_getElem? (i := 238) rfl)) rfl
theorem gt_X7_7 {g : GC} {X : XC} {cc : ByteArray} {nL k n pc : Nat} {ws : va_W} {lv : List (Nat × Value)} {st : List Value} (E : Ob g X cc nL RX7) (hd : decode cc pc = .ok (.getfield 7, 3)) (q : Nat) {a : Nat} {fs : List Value} (he : ws[q]? = some (a, .inr (7, fs))) {v : Value} (hv : fs[2]? = some v) (K : Z g X nL k n ws lv (v :: st) (pc + 3)) : Z g X nL k n ws lv (.ref a :: st) pc := z_get E rfl inA7 2 (by decide) rfl fl_X7_7 hd q he hv K
theorem fl_X7_13 : Cond.fieldLink RX7 13 RX7 (TX7 9).2.1 (TX7 9).2.2.1 ∈ lwA := lwA_mem (tb_4 (List.mem_of_getElem? (i := 5) rfl)) rfl
theorem gt_X7_13 {g : GC} {X : XC} {cc : ByteArray} {nL k n pc : Nat} {ws : va_W} {lv : List (Nat × Value)} {st : List Value} (E : Ob g X cc nL RX7) (hd : decode cc pc = .ok (.getfield 13, 3)) (q : Nat) {a : Nat} {fs : List Value} (he : ws[q]? = some (a, .inr (7, fs))) {v : Value} (hv : fs[9]? = some v) (K : Z g X nL k n ws lv (v :: st) (pc + 3)) : Z g X nL k n ws lv (.ref a :: st) pc := z_get E rfl inA7 9 (by decide) rfl fl_X7_13 hd q he hv K
theorem fl_X7_16 : Cond.fieldLink RX7 16 RX7 (TX7 11).2.1 (TX7 11).2.2.1 ∈ lwA := lwA_mem (tb_4 (List.mem_of_getElem? (i := 7) rfl)) rfl
theorem gt_X7_16 {g : GC} {X : XC} {cc : ByteArray} {nL k n pc : Nat} {ws : va_W} {lv : List (Nat × Value)} {st : List Value} (E : Ob g X cc nL RX7) (hd : decode cc pc = .ok (.getfield 16, 3)) (q : Nat) {a : Nat} {fs : List Value} (he : ws[q]? = some (a, .inr (7, fs))) {v : Value} (hv : fs[11]? = some v) (K : Z g X nL k n ws lv (v :: st) (pc + 3)) : Z g X nL k n ws lv (.ref a :: st) pc := z_get E rfl inA7 11 (by decide) rfl fl_X7_16 hd q he hv K
theorem fl_X7_19 : Cond.fieldLink RX7 19 RX7 (TX7 12).2.1 (TX7 12).2.2.1 ∈ lwA := lwA_mem (tb_4 (List.mem_of_getElem? (i := 8) rfl)) rfl
theorem gt_X7_19 {g : GC} {X : XC} {cc : ByteArray} {nL k n pc : Nat} {ws : va_W} {lv : List (Nat × Value)} {st : List Value} (E : Ob g X cc nL RX7) (hd : decode cc pc = .ok (.getfield 19, 3)) (q : Nat) {a : Nat} {fs : List Value} (he : ws[q]? = some (a, .inr (7, fs))) {v : Value} (hv : fs[12]? = some v) (K : Z g X nL k n ws lv (v :: st) (pc + 3)) : Z g X nL k n ws lv (.ref a :: st) pc := z_get E rfl inA7 12 (by decide) rfl fl_X7_19 hd q he hv K
theorem fl_X7_22 : Cond.fieldLink RX7 22 RX7 (TX7 13).2.1 (TX7 13).2.2.1 ∈ lwA := lwA_mem (tb_4 (List.mem_of_getElem? (i := 9) rfl)) rfl
theorem gt_X7_22 {g : GC} {X : XC} {cc : ByteArray} {nL k n pc : Nat} {ws : va_W} {lv : List (Nat × Value)} {st : List Value} (E : Ob g X cc nL RX7) (hd : decode cc pc = .ok (.getfield 22, 3)) (q : Nat) {a : Nat} {fs : List Value} (he : ws[q]? = some (a, .inr (7, fs))) {v : Value} (hv : fs[13]? = some v) (K : Z g X nL k n ws lv (v :: st) (pc + 3)) : Z g X nL k n ws lv (.ref a :: st) pc := z_get E rfl inA7 13 (by decide) rfl fl_X7_22 hd q he hv K
theorem fl_X7_25 : Cond.fieldLink RX7 25 RX7 (TX7 14).2.1 (TX7 14).2.2.1 ∈ lwA := lwA_mem (tb_4 (List.mem_of_getElem? (i := 10) rfl)) rfl
theorem gt_X7_25 {g : GC} {X : XC} {cc : ByteArray} {nL k n pc : Nat} {ws : va_W} {lv : List (Nat × Value)} {st : List Value} (E : Ob g X cc nL RX7) (hd : decode cc pc = .ok (.getfield 25, 3)) (q : Nat) {a : Nat} {fs : List Value} (he : ws[q]? = some (a, .inr (7, fs))) {v : Value} (hv : fs[14]? = some v) (K : Z g X nL k n ws lv (v :: st) (pc + 3)) : Z g X nL k n ws lv (.ref a :: st) pc := z_get E rfl inA7 14 (by decide) rfl fl_X7_25 hd q he hv K
theorem fl_X7_28 : Cond.fieldLink RX7 28 RX7 (TX7 15).2.1 (TX7 15).2.2.1 ∈ lwA := lwA_mem (tb_4 (List.mem_of_getElem? (i := 11) rfl)) rfl
theorem gt_X7_28 {g : GC} {X : XC} {cc : ByteArray} {nL k n pc : Nat} {ws : va_W} {lv : List (Nat × Value)} {st : List Value} (E : Ob g X cc nL RX7) (hd : decode cc pc = .ok (.getfield 28, 3)) (q : Nat) {a : Nat} {fs : List Value} (he : ws[q]? = some (a, .inr (7, fs))) {v : Value} (hv : fs[15]? = some v) (K : Z g X nL k n ws lv (v :: st) (pc + 3)) : Z g X nL k n ws lv (.ref a :: st) pc := z_get E rfl inA7 15 (by decide) rfl fl_X7_28 hd q he hv K
theorem fl_X7_31 : Cond.fieldLink RX7 31 RX7 (TX7 16).2.1 (TX7 16).2.2.1 ∈ lwA := lwA_mem (tb_4 (List.mem_of_getElem? (i := 12) rfl)) rfl
theorem gt_X7_31 {g : GC} {X : XC} {cc : ByteArray} {nL k n pc : Nat} {ws : va_W} {lv : List (Nat × Value)} {st : List Value} (E : Ob g X cc nL RX7) (hd : decode cc pc = .ok (.getfield 31, 3)) (q : Nat) {a : Nat} {fs : List Value} (he : ws[q]? = some (a, .inr (7, fs))) {v : Value} (hv : fs[16]? = some v) (K : Z g X nL k n ws lv (v :: st) (pc + 3)) : Z g X nL k n ws lv (.ref a :: st) pc := z_get E rfl inA7 16 (by decide) rfl fl_X7_31 hd q he hv K
theorem fl_X7_35 : Cond.fieldLink RX7 35 RX7 (TX7 17).2.1 (TX7 17).2.2.1 ∈ lwA := lwA_mem (tb_4 (List.mem_of_getElem? (i := 13) rfl)) rfl
theorem gt_X7_35 {g : GC} {X : XC} {cc : ByteArray} {nL k n pc : Nat} {ws : va_W} {lv : List (Nat × Value)} {st : List Value} (E : Ob g X cc nL RX7) (hd : decode cc pc = .ok (.getfield 35, 3)) (q : Nat) {a : Nat} {fs : List Value} (he : ws[q]? = some (a, .inr (7, fs))) {v : Value} (hv : fs[17]? = some v) (K : Z g X nL k n ws lv (v :: st) (pc + 3)) : Z g X nL k n ws lv (.ref a :: st) pc := z_get E rfl inA7 17 (by decide) rfl fl_X7_35 hd q he hv K
theorem fl_X7_38 : Cond.fieldLink RX7 38 RX7 (TX7 19).2.1 (TX7 19).2.2.1 ∈ lwA := lwA_mem (tb_4 (List.mem_of_getElem? (i := 15) rfl)) rfl
theorem gt_X7_38 {g : GC} {X : XC} {cc : ByteArray} {nL k n pc : Nat} {ws : va_W} {lv : List (Nat × Value)} {st : List Value} (E : Ob g X cc nL RX7) (hd : decode cc pc = .ok (.getfield 38, 3)) (q : Nat) {a : Nat} {fs : List Value} (he : ws[q]? = some (a, .inr (7, fs))) {v : Value} (hv : fs[19]? = some v) (K : Z g X nL k n ws lv (v :: st) (pc + 3)) : Z g X nL k n ws lv (.ref a :: st) pc := z_get E rfl inA7 19 (by decide) rfl fl_X7_38 hd q he hv K
theorem fl_X7_41 : Cond.fieldLink RX7 41 RX7 (TX7 21).2.1 (TX7 21).2.2.1 ∈ lwA := lwA_mem (tb_4 (List.mem_of_getElem? (i := 17) rfl)) rfl
theorem gt_X7_41 {g : GC} {X : XC} {cc : ByteArray} {nL k n pc : Nat} {ws : va_W} {lv : List (Nat × Value)} {st : List Value} (E : Ob g X cc nL RX7) (hd : decode cc pc = .ok (.getfield 41, 3)) (q : Nat) {a : Nat} {fs : List Value} (he : ws[q]? = some (a, .inr (7, fs))) {v : Value} (hv : fs[21]? = some v) (K : Z g X nL k n ws lv (v :: st) (pc + 3)) : Z g X nL k n ws lv (.ref a :: st) pc := z_get E rfl inA7 21 (by decide) rfl fl_X7_41 hd q he hv K
theorem fl_X7_44 : Cond.fieldLink RX7 44 RX7 (TX7 22).2.1 (TX7 22).2.2.1 ∈ lwA := lwA_mem (tb_4 (List.mem_of_getElem? (i := 18) rfl)) rfl
theorem gt_X7_44 {g : GC} {X : XC} {cc : ByteArray} {nL k n pc : Nat} {ws : va_W} {lv : List (Nat × Value)} {st : List Value} (E : Ob g X cc nL RX7) (hd : decode cc pc = .ok (.getfield 44, 3)) (q : Nat) {a : Nat} {fs : List Value} (he : ws[q]? = some (a, .inr (7, fs))) {v : Value} (hv : fs[22]? = some v) (K : Z g X nL k n ws lv (v :: st) (pc + 3)) : Z g X nL k n ws lv (.ref a :: st) pc := z_get E rfl inA7 22 (by decide) rfl fl_X7_44 hd q he hv K
theorem fl_X7_47 : Cond.fieldLink RX7 47 RX7 (TX7 24).2.1 (TX7 24).2.2.1 ∈ lwA := lwA_mem (tb_4 (List.mem_of_getElem? (i := 20) rfl)) rfl
theorem gt_X7_47 {g : GC} {X : XC} {cc : ByteArray} {nL k n pc : Nat} {ws : va_W} {lv : List (Nat × Value)} {st : List Value} (E : Ob g X cc nL RX7) (hd : decode cc pc = .ok (.getfield 47, 3)) (q : Nat) {a : Nat} {fs : List Value} (he : ws[q]? = some (a, .inr (7, fs))) {v : Value} (hv : fs[24]? = some v) (K : Z g X nL k n ws lv (v :: st) (pc + 3)) : Z g X nL k n ws lv (.ref a :: st) pc := z_get E rfl inA7 24 (by decide) rfl fl_X7_47 hd q he hv K
theorem fl_X7_50 : Cond.fieldLink RX7 50 RX7 (TX7 26).2.1 (TX7 26).2.2.1 ∈ lwA := lwA_mem (tb_4 (List.mem_of_getElem? (i := 22) rfl)) rfl
theorem gt_X7_50 {g : GC} {X : XC} {cc : ByteArray} {nL k n pc : Nat} {ws : va_W} {lv : List (Nat × Value)} {st : List Value} (E : Ob g X cc nL RX7) (hd : decode cc pc = .ok (.getfield 50, 3)) (q : Nat) {a : Nat} {fs : List Value} (he : ws[q]? = some (a, .inr (7, fs))) {v : Value} (hv : fs[26]? = some v) (K : Z g X nL k n ws lv (v :: st) (pc + 3)) : Z g X nL k n ws lv (.ref a :: st) pc := z_get E rfl inA7 26 (by decide) rfl fl_X7_50 hd q he hv K
theorem fl_X7_53 : Cond.fieldLink RX7 53 RX7 (TX7 28).2.1 (TX7 28).2.2.1 ∈ lwA := lwA_mem (tb_4 (List.mem_of_getElem? (i := 24) rfl)) rfl
theorem gt_X7_53 {g : GC} {X : XC} {cc : ByteArray} {nL k n pc : Nat} {ws : va_W} {lv : List (Nat × Value)} {st : List Value} (E : Ob g X cc nL RX7) (hd : decode cc pc = .ok (.getfield 53, 3)) (q : Nat) {a : Nat} {fs : List Value} (he : ws[q]? = some (a, .inr (7, fs))) {v : Value} (hv : fs[28]? = some v) (K : Z g X nL k n ws lv (v :: st) (pc + 3)) : Z g X nL k n ws lv (.ref a :: st) pc := z_get E rfl inA7 28 (by decide) rfl fl_X7_53 hd q he hv K
theorem fl_X7_56 : Cond.fieldLink RX7 56 RX7 (TX7 29).2.1 (TX7 29).2.2.1 ∈ lwA := lwA_mem (tb_4 (List.mem_of_getElem? (i := 25) rfl)) rfl
theorem gt_X7_56 {g : GC} {X : XC} {cc : ByteArray} {nL k n pc : Nat} {ws : va_W} {lv : List (Nat × Value)} {st : List Value} (E : Ob g X cc nL RX7) (hd : decode cc pc = .ok (.getfield 56, 3)) (q : Nat) {a : Nat} {fs : List Value} (he : ws[q]? = some (a, .inr (7, fs))) {v : Value} (hv : fs[29]? = some v) (K : Z g X nL k n ws lv (v :: st) (pc + 3)) : Z g X nL k n ws lv (.ref a :: st) pc := z_get E rfl inA7 29 (by decide) rfl fl_X7_56 hd q he hv K
theorem fl_X7_60 : Cond.fieldLink RX7 60 RX7 (TX7 30).2.1 (TX7 30).2.2.1 ∈ lwA := lwA_mem (tb_4 (List.mem_of_getElem? (i := 26) rfl)) rfl
theorem gt_X7_60 {g : GC} {X : XC} {cc : ByteArray} {nL k n pc : Nat} {ws : va_W} {lv : List (Nat × Value)} {st : List Value} (E : Ob g X cc nL RX7) (hd : decode cc pc = .ok (.getfield 60, 3)) (q : Nat) {a : Nat} {fs : List Value} (he : ws[q]? = some (a, .inr (7, fs))) {v : Value} (hv : fs[30]? = some v) (K : Z g X nL k n ws lv (v :: st) (pc + 3)) : Z g X nL k n ws lv (.ref a :: st) pc := z_get E rfl inA7 30 (by decide) rfl fl_X7_60 hd q he hv K
theorem fl_X7_69 : Cond.fieldLink RX7 69 RX7 (TX7 0).2.1 (TX7 0).2.2.1 ∈ lwA := lwA_mem (tb_3 (List.mem_of_getElem? (i := 236) rfl)) rfl
theorem gt_X7_69 {g : GC} {X : XC} {cc : ByteArray} {nL k n pc : Nat} {ws : va_W} {lv : List (Nat × Value)} {st : List Value} (E : Ob g X cc nL RX7) (hd : decode cc pc = .ok (.getfield 69, 3)) (q : Nat) {a : Nat} {fs : List Value} (he : ws[q]? = some (a, .inr (7, fs))) {v : Value} (hv : fs[0]? = some v) (K : Z g X nL k n ws lv (v :: st) (pc + 3)) : Z g X nL k n ws lv (.ref a :: st) pc := z_get E rfl inA7 0 (by decide) rfl fl_X7_69 hd q he hv K
theorem pt_X7_69 {g : GC} {X : XC} {cc : ByteArray} {nL k n pc : Nat} {ws : va_W} {lv : List (Nat × Value)} {st : List Value} (E : Ob g X cc nL RX7) (hd : decode cc pc = .ok (.putfield 69, 3)) (q : Nat) {a : Nat} {fs : List Value} (he : ws[q]? = some (a, .inr (7, fs))) (hl : 0 < fs.length) {x : Int32} {ws' : va_W} (hws : ws.set q (a, .inr (7, fs.set 0 (.int x))) = ws') (K : Z g X nL k n ws' lv st (pc + 3)) : Z g X nL k n ws lv (.int x :: .ref a :: st) pc := z_put E tyX7 rfl inA7 tyX7_ok nmX7 0 (by decide) rfl fl_X7_69 rfl hd q he hl rfl rfl hws K
theorem fl_X7_77 : Cond.fieldLink RX7 77 RX7 (TX7 3).2.1 (TX7 3).2.2.1 ∈ lwA := lwA_mem (tb_3 (List.mem_of_getElem? (i := 239) rfl)) rfl
theorem gt_X7_77 {g : GC} {X : XC} {cc : ByteArray} {nL k n pc : Nat} {ws : va_W} {lv : List (Nat × Value)} {st : List Value} (E : Ob g X cc nL RX7) (hd : decode cc pc = .ok (.getfield 77, 3)) (q : Nat) {a : Nat} {fs : List Value} (he : ws[q]? = some (a, .inr (7, fs))) {v : Value} (hv : fs[3]? = some v) (K : Z g X nL k n ws lv (v :: st) (pc + 3)) : Z g X nL k n ws lv (.ref a :: st) pc := z_get E rfl inA7 3 (by decide) rfl fl_X7_77 hd q he hv K
theorem pt_X7_77 {g : GC} {X : XC} {cc : ByteArray} {nL k n pc : Nat} {ws : va_W} {lv : List (Nat × Value)} {st : List Value} (E : Ob g X cc nL RX7) (hd : decode cc pc = .ok (.putfield 77, 3)) (q : Nat) {a : Nat} {fs : List Value} (he : ws[q]? = some (a, .inr (7, fs))) (hl : 3 < fs.length) {x : Int32} {ws' : va_W} (hws : ws.set q (a, .inr (7, fs.set 3 (.int x))) = ws') (K : Z g X nL k n ws' lv st (pc + 3)) : Z g X nL k n ws lv (.int x :: .ref a :: st) pc := z_put E tyX7 rfl inA7 tyX7_ok nmX7 3 (by decide) rfl fl_X7_77 rfl hd q he hl rfl rfl hws K
theorem fl_X7_80 : Cond.fieldLink RX7 80 RX7 (TX7 4).2.1 (TX7 4).2.2.1 ∈ lwA := lwA_mem (tb_4 (List.mem_of_getElem? (i := 0) rfl)) rfl
theorem gt_X7_80 {g : GC} {X : XC} {cc : ByteArray} {nL k n pc : Nat} {ws : va_W} {lv : List (Nat × Value)} {st : List Value} (E : Ob g X cc nL RX7) (hd : decode cc pc = .ok (.getfield 80, 3)) (q : Nat) {a : Nat} {fs : List Value} (he : ws[q]? = some (a, .inr (7, fs))) {v : Value} (hv : fs[4]? = some v) (K : Z g X nL k n ws lv (v :: st) (pc + 3)) : Z g X nL k n ws lv (.ref a :: st) pc := z_get E rfl inA7 4 (by decide) rfl fl_X7_80 hd q he hv K
theorem pt_X7_80 {g : GC} {X : XC} {cc : ByteArray} {nL k n pc : Nat} {ws : va_W} {lv : List (Nat × Value)} {st : List Value} (E : Ob g X cc nL RX7) (hd : decode cc pc = .ok (.putfield 80, 3)) (q : Nat) {a : Nat} {fs : List Value} (he : ws[q]? = some (a, .inr (7, fs))) (hl : 4 < fs.length) {x : Int32} {ws' : va_W} (hws : ws.set q (a, .inr (7, fs.set 4 (.int x))) = ws') (K : Z g X nL k n ws' lv st (pc + 3)) : Z g X nL k n ws lv (.int x :: .ref a :: st) pc := z_put E tyX7 rfl inA7 tyX7_ok nmX7 4 (by decide) rfl fl_X7_80 rfl hd q he hl rfl rfl hws K
theorem fl_X7_87 : Cond.fieldLink RX7 87 RX7 (TX7 6).2.1 (TX7 6).2.2.1 ∈ lwA := lwA_mem (tb_4 (List.mem_of_getElem? (i := 2) rfl)) rfl
theorem gt_X7_87 {g : GC} {X : XC} {cc : ByteArray} {nL k n pc : Nat} {ws : va_W} {lv : List (Nat × Value)} {st : List Value} (E : Ob g X cc nL RX7) (hd : decode cc pc = .ok (.getfield 87, 3)) (q : Nat) {a : Nat} {fs : List Value} (he : ws[q]? = some (a, .inr (7, fs))) {v : Value} (hv : fs[6]? = some v) (K : Z g X nL k n ws lv (v :: st) (pc + 3)) : Z g X nL k n ws lv (.ref a :: st) pc := z_get E rfl inA7 6 (by decide) rfl fl_X7_87 hd q he hv K
theorem pt_X7_87 {g : GC} {X : XC} {cc : ByteArray} {nL k n pc : Nat} {ws : va_W} {lv : List (Nat × Value)} {st : List Value} (E : Ob g X cc nL RX7) (hd : decode cc pc = .ok (.putfield 87, 3)) (q : Nat) {a : Nat} {fs : List Value} (he : ws[q]? = some (a, .inr (7, fs))) (hl : 6 < fs.length) {x : Int32} {ws' : va_W} (hws : ws.set q (a, .inr (7, fs.set 6 (.int x))) = ws') (K : Z g X nL k n ws' lv st (pc + 3)) : Z g X nL k n ws lv (.int x :: .ref a :: st) pc := z_put E tyX7 rfl inA7 tyX7_ok nmX7 6 (by decide) rfl fl_X7_87 rfl hd q he hl rfl rfl hws K
theorem fl_X7_90 : Cond.fieldLink RX7 90 RX7 (TX7 5).2.1 (TX7 5).2.2.1 ∈ lwA := lwA_mem (tb_4 (List.mem_of_getElem? (i := 1) rfl)) rfl
theorem gt_X7_90 {g : GC} {X : XC} {cc : ByteArray} {nL k n pc : Nat} {ws : va_W} {lv : List (Nat × Value)} {st : List Value} (E : Ob g X cc nL RX7) (hd : decode cc pc = .ok (.getfield 90, 3)) (q : Nat) {a : Nat} {fs : List Value} (he : ws[q]? = some (a, .inr (7, fs))) {v : Value} (hv : fs[5]? = some v) (K : Z g X nL k n ws lv (v :: st) (pc + 3)) : Z g X nL k n ws lv (.ref a :: st) pc := z_get E rfl inA7 5 (by decide) rfl fl_X7_90 hd q he hv K
theorem pt_X7_90 {g : GC} {X : XC} {cc : ByteArray} {nL k n pc : Nat} {ws : va_W} {lv : List (Nat × Value)} {st : List Value} (E : Ob g X cc nL RX7) (hd : decode cc pc = .ok (.putfield 90, 3)) (q : Nat) {a : Nat} {fs : List Value} (he : ws[q]? = some (a, .inr (7, fs))) (hl : 5 < fs.length) {x : Int32} {ws' : va_W} (hws : ws.set q (a, .inr (7, fs.set 5 (.int x))) = ws') (K : Z g X nL k n ws' lv st (pc + 3)) : Z g X nL k n ws lv (.int x :: .ref a :: st) pc := z_put E tyX7 rfl inA7 tyX7_ok nmX7 5 (by decide) rfl fl_X7_90 rfl hd q he hl rfl rfl hws K
theorem fl_X7_93 : Cond.fieldLink RX7 93 RX7 (TX7 7).2.1 (TX7 7).2.2.1 ∈ lwA := lwA_mem (tb_4 (List.mem_of_getElem? (i := 3) rfl)) rfl
theorem gt_X7_93 {g : GC} {X : XC} {cc : ByteArray} {nL k n pc : Nat} {ws : va_W} {lv : List (Nat × Value)} {st : List Value} (E : Ob g X cc nL RX7) (hd : decode cc pc = .ok (.getfield 93, 3)) (q : Nat) {a : Nat} {fs : List Value} (he : ws[q]? = some (a, .inr (7, fs))) {v : Value} (hv : fs[7]? = some v) (K : Z g X nL k n ws lv (v :: st) (pc + 3)) : Z g X nL k n ws lv (.ref a :: st) pc := z_get E rfl inA7 7 (by decide) rfl fl_X7_93 hd q he hv K
theorem pt_X7_93 {g : GC} {X : XC} {cc : ByteArray} {nL k n pc : Nat} {ws : va_W} {lv : List (Nat × Value)} {st : List Value} (E : Ob g X cc nL RX7) (hd : decode cc pc = .ok (.putfield 93, 3)) (q : Nat) {a : Nat} {fs : List Value} (he : ws[q]? = some (a, .inr (7, fs))) (hl : 7 < fs.length) {x : Int32} {ws' : va_W} (hws : ws.set q (a, .inr (7, fs.set 7 (.int x))) = ws') (K : Z g X nL k n ws' lv st (pc + 3)) : Z g X nL k n ws lv (.int x :: .ref a :: st) pc := z_put E tyX7 rfl inA7 tyX7_ok nmX7 7 (by decide) rfl fl_X7_93 rfl hd q he hl rfl rfl hws K
theorem fl_X7_100 : Cond.fieldLink RX7 100 RX7 (TX7 8).2.1 (TX7 8).2.2.1 ∈ lwA := lwA_mem (tb_4 (List.mem_of_getElem? (i := 4) rfl)) rfl
theorem gt_X7_100 {g : GC} {X : XC} {cc : ByteArray} {nL k n pc : Nat} {ws : va_W} {lv : List (Nat × Value)} {st : List Value} (E : Ob g X cc nL RX7) (hd : decode cc pc = .ok (.getfield 100, 3)) (q : Nat) {a : Nat} {fs : List Value} (he : ws[q]? = some (a, .inr (7, fs))) {v : Value} (hv : fs[8]? = some v) (K : Z g X nL k n ws lv (v :: st) (pc + 3)) : Z g X nL k n ws lv (.ref a :: st) pc := z_get E rfl inA7 8 (by decide) rfl fl_X7_100 hd q he hv K
theorem pt_X7_100 {g : GC} {X : XC} {cc : ByteArray} {nL k n pc : Nat} {ws : va_W} {lv : List (Nat × Value)} {st : List Value} (E : Ob g X cc nL RX7) (hd : decode cc pc = .ok (.putfield 100, 3)) (q : Nat) {a : Nat} {fs : List Value} (he : ws[q]? = some (a, .inr (7, fs))) (hl : 8 < fs.length) {x : Int32} {ws' : va_W} (hws : ws.set q (a, .inr (7, fs.set 8 (.int x))) = ws') (K : Z g X nL k n ws' lv st (pc + 3)) : Z g X nL k n ws lv (.int x :: .ref a :: st) pc := z_put E tyX7 rfl inA7 tyX7_ok nmX7 8 (by decide) rfl fl_X7_100 rfl hd q he hl rfl rfl hws K
theorem fl_X7_114 : Cond.fieldLink RX7 114 RX7 (TX7 10).2.1 (TX7 10).2.2.1 ∈ lwA := lwA_mem (tb_4 (List.mem_of_getElem? (i := 6) rfl)) rfl
theorem gt_X7_114 {g : GC} {X : XC} {cc : ByteArray} {nL k n pc : Nat} {ws : va_W} {lv : List (Nat × Value)} {st : List Value} (E : Ob g X cc nL RX7) (hd : decode cc pc = .ok (.getfield 114, 3)) (q : Nat) {a : Nat} {fs : List Value} (he : ws[q]? = some (a, .inr (7, fs))) {v : Value} (hv : fs[10]? = some v) (K : Z g X nL k n ws lv (v :: st) (pc + 3)) : Z g X nL k n ws lv (.ref a :: st) pc := z_get E rfl inA7 10 (by decide) rfl fl_X7_114 hd q he hv K
theorem pt_X7_114 {g : GC} {X : XC} {cc : ByteArray} {nL k n pc : Nat} {ws : va_W} {lv : List (Nat × Value)} {st : List Value} (E : Ob g X cc nL RX7) (hd : decode cc pc = .ok (.putfield 114, 3)) (q : Nat) {a : Nat} {fs : List Value} (he : ws[q]? = some (a, .inr (7, fs))) (hl : 10 < fs.length) {x : Int32} {ws' : va_W} (hws : ws.set q (a, .inr (7, fs.set 10 (.int x))) = ws') (K : Z g X nL k n ws' lv st (pc + 3)) : Z g X nL k n ws lv (.int x :: .ref a :: st) pc := z_put E tyX7 rfl inA7 tyX7_ok nmX7 10 (by decide) rfl fl_X7_114 rfl hd q he hl rfl rfl hws K
theorem fl_X7_134 : Cond.fieldLink RX7 134 RX7 (TX7 20).2.1 (TX7 20).2.2.1 ∈ lwA := lwA_mem (tb_4 (List.mem_of_getElem? (i := 16) rfl)) rfl
theorem gt_X7_134 {g : GC} {X : XC} {cc : ByteArray} {nL k n pc : Nat} {ws : va_W} {lv : List (Nat × Value)} {st : List Value} (E : Ob g X cc nL RX7) (hd : decode cc pc = .ok (.getfield 134, 3)) (q : Nat) {a : Nat} {fs : List Value} (he : ws[q]? = some (a, .inr (7, fs))) {v : Value} (hv : fs[20]? = some v) (K : Z g X nL k n ws lv (v :: st) (pc + 3)) : Z g X nL k n ws lv (.ref a :: st) pc := z_get E rfl inA7 20 (by decide) rfl fl_X7_134 hd q he hv K
theorem pt_X7_134 {g : GC} {X : XC} {cc : ByteArray} {nL k n pc : Nat} {ws : va_W} {lv : List (Nat × Value)} {st : List Value} (E : Ob g X cc nL RX7) (hd : decode cc pc = .ok (.putfield 134, 3)) (q : Nat) {a : Nat} {fs : List Value} (he : ws[q]? = some (a, .inr (7, fs))) (hl : 20 < fs.length) {x : Int32} {ws' : va_W} (hws : ws.set q (a, .inr (7, fs.set 20 (.int x))) = ws') (K : Z g X nL k n ws' lv st (pc + 3)) : Z g X nL k n ws lv (.int x :: .ref a :: st) pc := z_put E tyX7 rfl inA7 tyX7_ok nmX7 20 (by decide) rfl fl_X7_134 rfl hd q he hl rfl rfl hws K
theorem fl_X7_137 : Cond.fieldLink RX7 137 RX7 (TX7 23).2.1 (TX7 23).2.2.1 ∈ lwA := lwA_mem (tb_4 (List.mem_of_getElem? (i := 19) rfl)) rfl
theorem gt_X7_137 {g : GC} {X : XC} {cc : ByteArray} {nL k n pc : Nat} {ws : va_W} {lv : List (Nat × Value)} {st : List Value} (E : Ob g X cc nL RX7) (hd : decode cc pc = .ok (.getfield 137, 3)) (q : Nat) {a : Nat} {fs : List Value} (he : ws[q]? = some (a, .inr (7, fs))) {v : Value} (hv : fs[23]? = some v) (K : Z g X nL k n ws lv (v :: st) (pc + 3)) : Z g X nL k n ws lv (.ref a :: st) pc := z_get E rfl inA7 23 (by decide) rfl fl_X7_137 hd q he hv K
theorem pt_X7_137 {g : GC} {X : XC} {cc : ByteArray} {nL k n pc : Nat} {ws : va_W} {lv : List (Nat × Value)} {st : List Value} (E : Ob g X cc nL RX7) (hd : decode cc pc = .ok (.putfield 137, 3)) (q : Nat) {a : Nat} {fs : List Value} (he : ws[q]? = some (a, .inr (7, fs))) (hl : 23 < fs.length) {x : Int32} {ws' : va_W} (hws : ws.set q (a, .inr (7, fs.set 23 (.int x))) = ws') (K : Z g X nL k n ws' lv st (pc + 3)) : Z g X nL k n ws lv (.int x :: .ref a :: st) pc := z_put E tyX7 rfl inA7 tyX7_ok nmX7 23 (by decide) rfl fl_X7_137 rfl hd q he hl rfl rfl hws K
theorem fl_X7_140 : Cond.fieldLink RX7 140 RX7 (TX7 18).2.1 (TX7 18).2.2.1 ∈ lwA := lwA_mem (tb_4 (List.mem_of_getElem? (i := 14) rfl)) rfl
theorem gt_X7_140 {g : GC} {X : XC} {cc : ByteArray} {nL k n pc : Nat} {ws : va_W} {lv : List (Nat × Value)} {st : List Value} (E : Ob g X cc nL RX7) (hd : decode cc pc = .ok (.getfield 140, 3)) (q : Nat) {a : Nat} {fs : List Value} (he : ws[q]? = some (a, .inr (7, fs))) {v : Value} (hv : fs[18]? = some v) (K : Z g X nL k n ws lv (v :: st) (pc + 3)) : Z g X nL k n ws lv (.ref a :: st) pc := z_get E rfl inA7 18 (by decide) rfl fl_X7_140 hd q he hv K
theorem pt_X7_140 {g : GC} {X : XC} {cc : ByteArray} {nL k n pc : Nat} {ws : va_W} {lv : List (Nat × Value)} {st : List Value} (E : Ob g X cc nL RX7) (hd : decode cc pc = .ok (.putfield 140, 3)) (q : Nat) {a : Nat} {fs : List Value} (he : ws[q]? = some (a, .inr (7, fs))) (hl : 18 < fs.length) {x : Int32} {ws' : va_W} (hws : ws.set q (a, .inr (7, fs.set 18 (.int x))) = ws') (K : Z g X nL k n ws' lv st (pc + 3)) : Z g X nL k n ws lv (.int x :: .ref a :: st) pc := z_put E tyX7 rfl inA7 tyX7_ok nmX7 18 (by decide) rfl fl_X7_140 rfl hd q he hl rfl rfl hws K
theorem fl_X7_163 : Cond.fieldLink RX7 163 RX7 (TX7 25).2.1 (TX7 25).2.2.1 ∈ lwA := lwA_mem (tb_4 (List.mem_of_getElem? (i := 21) rfl)) rfl
theorem gt_X7_163 {g : GC} {X : XC} {cc : ByteArray} {nL k n pc : Nat} {ws : va_W} {lv : List (Nat × Value)} {st : List Value} (E : Ob g X cc nL RX7) (hd : decode cc pc = .ok (.getfield 163, 3)) (q : Nat) {a : Nat} {fs : List Value} (he : ws[q]? = some (a, .inr (7, fs))) {v : Value} (hv : fs[25]? = some v) (K : Z g X nL k n ws lv (v :: st) (pc + 3)) : Z g X nL k n ws lv (.ref a :: st) pc := z_get E rfl inA7 25 (by decide) rfl fl_X7_163 hd q he hv K
theorem pt_X7_163 {g : GC} {X : XC} {cc : ByteArray} {nL k n pc : Nat} {ws : va_W} {lv : List (Nat × Value)} {st : List Value} (E : Ob g X cc nL RX7) (hd : decode cc pc = .ok (.putfield 163, 3)) (q : Nat) {a : Nat} {fs : List Value} (he : ws[q]? = some (a, .inr (7, fs))) (hl : 25 < fs.length) {x : Int32} {ws' : va_W} (hws : ws.set q (a, .inr (7, fs.set 25 (.int x))) = ws') (K : Z g X nL k n ws' lv st (pc + 3)) : Z g X nL k n ws lv (.int x :: .ref a :: st) pc := z_put E tyX7 rfl inA7 tyX7_ok nmX7 25 (by decide) rfl fl_X7_163 rfl hd q he hl rfl rfl hws K
theorem fl_X7_189 : Cond.fieldLink RX7 189 RX7 (TX7 27).2.1 (TX7 27).2.2.1 ∈ lwA := lwA_mem (tb_4 (List.mem_of_getElem? (i := 23) rfl)) rfl
theorem gt_X7_189 {g : GC} {X : XC} {cc : ByteArray} {nL k n pc : Nat} {ws : va_W} {lv : List (Nat × Value)} {st : List Value} (E : Ob g X cc nL RX7) (hd : decode cc pc = .ok (.getfield 189, 3)) (q : Nat) {a : Nat} {fs : List Value} (he : ws[q]? = some (a, .inr (7, fs))) {v : Value} (hv : fs[27]? = some v) (K : Z g X nL k n ws lv (v :: st) (pc + 3)) : Z g X nL k n ws lv (.ref a :: st) pc := z_get E rfl inA7 27 (by decide) rfl fl_X7_189 hd q he hv K
theorem pt_X7_189 {g : GC} {X : XC} {cc : ByteArray} {nL k n pc : Nat} {ws : va_W} {lv : List (Nat × Value)} {st : List Value} (E : Ob g X cc nL RX7) (hd : decode cc pc = .ok (.putfield 189, 3)) (q : Nat) {a : Nat} {fs : List Value} (he : ws[q]? = some (a, .inr (7, fs))) (hl : 27 < fs.length) {x : Int32} {ws' : va_W} (hws : ws.set q (a, .inr (7, fs.set 27 (.int x))) = ws') (K : Z g X nL k n ws' lv st (pc + 3)) : Z g X nL k n ws lv (.int x :: .ref a :: st) pc := z_put E tyX7 rfl inA7 tyX7_ok nmX7 27 (by decide) rfl fl_X7_189 rfl hd q he hl rfl rfl hws K
theorem fl_X7_217 : Cond.fieldLink RX7 217 RX7 (TX7 1).2.1 (TX7 1).2.2.1 ∈ lwA := lwA_mem (tb_3 (List.mem_of_getElem? (i := 237) rfl)) rfl
theorem gt_X7_217 {g : GC} {X : XC} {cc : ByteArray} {nL k n pc : Nat} {ws : va_W} {lv : List (Nat × Value)} {st : List Value} (E : Ob g X cc nL RX7) (hd : decode cc pc = .ok (.getfield 217, 3)) (q : Nat) {a : Nat} {fs : List Value} (he : ws[q]? = some (a, .inr (7, fs))) {v : Value} (hv : fs[1]? = some v) (K : Z g X nL k n ws lv (v :: st) (pc + 3)) : Z g X nL k n ws lv (.ref a :: st) pc := z_get E rfl inA7 1 (by decide) rfl fl_X7_217 hd q he hv K
theorem pt_X7_217 {g : GC} {X : XC} {cc : ByteArray} {nL k n pc : Nat} {ws : va_W} {lv : List (Nat × Value)} {st : List Value} (E : Ob g X cc nL RX7) (hd : decode cc pc = .ok (.putfield 217, 3)) (q : Nat) {a : Nat} {fs : List Value} (he : ws[q]? = some (a, .inr (7, fs))) (hl : 1 < fs.length) {x : Int64} {ws' : va_W} (hws : ws.set q (a, .inr (7, fs.set 1 (.long x))) = ws') (K : Z g X nL k n ws' lv st (pc + 3)) : Z g X nL k n ws lv (.long x :: .ref a :: st) pc := z_put E tyX7 rfl inA7 tyX7_ok nmX7 1 (by decide) rfl fl_X7_217 rfl hd q he hl rfl rfl hws K
theorem mw_X6_init : MW yX6_init cX6_init 2 none 0 := ⟨lwA_mem (tb_1 (List.mem_of_getElem? (i := 16) rfl)) rfl, ini_X6, by decide, by decide +kernel, by decide⟩
theorem mi_X6_init : yX6_init.name = "<init>" ∧ Cond.instanceMethod yX6_init ∈ lwA := ⟨rfl, lwA_mem (tb_1 (List.mem_of_getElem? (i := 15) rfl)) rfl⟩
theorem mw_X6_asSeen : MWV yX6_asSeen cX6_asSeen 5 (some .int) 2 := ⟨⟨lwA_mem (tb_3 (List.mem_of_getElem? (i := 142) rfl)) rfl, ini_X6, by decide, by decide +kernel, by decide⟩, lwA_mem (tb_3 (List.mem_of_getElem? (i := 141) rfl)) rfl, lwA_mem (List.mem_append_left _ (List.mem_map.mpr ⟨(yX6_asSeen, 15), (List.mem_append_right _ (List.mem_append_left _ (List.mem_of_getElem? (i := 8) rfl : (yX6_asSeen, 15) ∈ lw_privs_2))), rfl⟩)) rfl⟩
theorem mw_X6_back : MWV yX6_back cX6_back 2 (some .int) 1 := ⟨⟨lwA_mem (tb_3 (List.mem_of_getElem? (i := 213) rfl)) rfl, ini_X6, by decide, by decide +kernel, by decide⟩, lwA_mem (tb_3 (List.mem_of_getElem? (i := 211) rfl)) rfl, lwA_mem (tb_3 (List.mem_of_getElem? (i := 212) rfl)) rfl⟩
theorem mw_X6_beginAnew : MWV yX6_beginAnew cX6_beginAnew 2 none 0 := ⟨⟨lwA_mem (tb_2 (List.mem_of_getElem? (i := 139) rfl)) rfl, ini_X6, by decide, by decide +kernel, by decide⟩, lwA_mem (tb_2 (List.mem_of_getElem? (i := 138) rfl)) rfl, lwA_mem (List.mem_append_left _ (List.mem_map.mpr ⟨(yX6_beginAnew, 15), (List.mem_append_left _ (List.mem_of_getElem? (i := 12) rfl : (yX6_beginAnew, 15) ∈ lw_privs_1)), rfl⟩)) rfl⟩
theorem mw_X6_canTake : MWV yX6_canTake cX6_canTake 3 (some .boolean) 2 := ⟨⟨lwA_mem (tb_2 (List.mem_of_getElem? (i := 202) rfl)) rfl, ini_X6, by decide, by decide +kernel, by decide⟩, lwA_mem (tb_2 (List.mem_of_getElem? (i := 201) rfl)) rfl, lwA_mem (List.mem_append_left _ (List.mem_map.mpr ⟨(yX6_canTake, 15), (List.mem_append_left _ (List.mem_of_getElem? (i := 15) rfl : (yX6_canTake, 15) ∈ lw_privs_1)), rfl⟩)) rfl⟩
theorem mw_X6_cars : MWV yX6_cars cX6_cars 4 (some .int) 2 := ⟨⟨lwA_mem (tb_3 (List.mem_of_getElem? (i := 102) rfl)) rfl, ini_X6, by decide, by decide +kernel, by decide⟩, lwA_mem (tb_3 (List.mem_of_getElem? (i := 100) rfl)) rfl, lwA_mem (tb_3 (List.mem_of_getElem? (i := 101) rfl)) rfl⟩
theorem mw_X6_clear : MWV yX6_clear cX6_clear 1 (some .int) 0 := ⟨⟨lwA_mem (tb_2 (List.mem_of_getElem? (i := 59) rfl)) rfl, ini_X6, by decide, by decide +kernel, by decide⟩, lwA_mem (tb_2 (List.mem_of_getElem? (i := 57) rfl)) rfl, lwA_mem (tb_2 (List.mem_of_getElem? (i := 58) rfl)) rfl⟩
theorem mw_X6_count : MWV yX6_count cX6_count 2 (some .int) 1 := ⟨⟨lwA_mem (tb_3 (List.mem_of_getElem? (i := 217) rfl)) rfl, ini_X6, by decide, by decide +kernel, by decide⟩, lwA_mem (tb_3 (List.mem_of_getElem? (i := 215) rfl)) rfl, lwA_mem (tb_3 (List.mem_of_getElem? (i := 216) rfl)) rfl⟩
theorem mw_X6_drops : MWV yX6_drops cX6_drops 2 (some .int) 0 := ⟨⟨lwA_mem (tb_3 (List.mem_of_getElem? (i := 94) rfl)) rfl, ini_X6, by decide, by decide +kernel, by decide⟩, lwA_mem (tb_3 (List.mem_of_getElem? (i := 92) rfl)) rfl, lwA_mem (tb_3 (List.mem_of_getElem? (i := 93) rfl)) rfl⟩
theorem mw_X6_forget : MWV yX6_forget cX6_forget 2 (some .int) 0 := ⟨⟨lwA_mem (tb_3 (List.mem_of_getElem? (i := 134) rfl)) rfl, ini_X6, by decide, by decide +kernel, by decide⟩, lwA_mem (tb_3 (List.mem_of_getElem? (i := 132) rfl)) rfl, lwA_mem (tb_3 (List.mem_of_getElem? (i := 133) rfl)) rfl⟩
theorem mw_X6_has : MW yX6_has cX6_has 2 (some .boolean) 2 := ⟨lwA_mem (tb_2 (List.mem_of_getElem? (i := 162) rfl)) rfl, ini_X6, by decide, by decide +kernel, by decide⟩
theorem ms_X6_has : Cond.static yX6_has ∈ lwA := lwA_mem (tb_2 (List.mem_of_getElem? (i := 161) rfl)) rfl
theorem mw_X6_his : MWV yX6_his cX6_his 7 (some .int) 1 := ⟨⟨lwA_mem (tb_3 (List.mem_of_getElem? (i := 98) rfl)) rfl, ini_X6, by decide, by decide +kernel, by decide⟩, lwA_mem (tb_3 (List.mem_of_getElem? (i := 96) rfl)) rfl, lwA_mem (tb_3 (List.mem_of_getElem? (i := 97) rfl)) rfl⟩
theorem mw_X6_isWithin : MW yX6_isWithin cX6_isWithin 3 (some .boolean) 3 := ⟨lwA_mem (tb_2 (List.mem_of_getElem? (i := 47) rfl)) rfl, ini_X6, by decide, by decide +kernel, by decide⟩
theorem ms_X6_isWithin : Cond.static yX6_isWithin ∈ lwA := lwA_mem (tb_2 (List.mem_of_getElem? (i := 46) rfl)) rfl
theorem mw_X6_jams : MWV yX6_jams cX6_jams 4 (some .int) 2 := ⟨⟨lwA_mem (tb_3 (List.mem_of_getElem? (i := 0) rfl)) rfl, ini_X6, by decide, by decide +kernel, by decide⟩, lwA_mem (tb_2 (List.mem_of_getElem? (i := 238) rfl)) rfl, lwA_mem (tb_2 (List.mem_of_getElem? (i := 239) rfl)) rfl⟩
theorem mw_X6_keep : MWV yX6_keep cX6_keep 2 (some .int) 1 := ⟨⟨lwA_mem (tb_3 (List.mem_of_getElem? (i := 208) rfl)) rfl, ini_X6, by decide, by decide +kernel, by decide⟩, lwA_mem (tb_3 (List.mem_of_getElem? (i := 206) rfl)) rfl, lwA_mem (tb_3 (List.mem_of_getElem? (i := 207) rfl)) rfl⟩
theorem mw_X6_longOf : MWV yX6_longOf cX6_longOf 2 (some .int) 1 := ⟨⟨lwA_mem (tb_2 (List.mem_of_getElem? (i := 155) rfl)) rfl, ini_X6, by decide, by decide +kernel, by decide⟩, lwA_mem (tb_2 (List.mem_of_getElem? (i := 154) rfl)) rfl, lwA_mem (List.mem_append_left _ (List.mem_map.mpr ⟨(yX6_longOf, 15), (List.mem_append_left _ (List.mem_of_getElem? (i := 13) rfl : (yX6_longOf, 15) ∈ lw_privs_1)), rfl⟩)) rfl⟩
theorem mw_X6_minutesAlike : MWV yX6_minutesAlike cX6_minutesAlike 4 (some .int) 2 := ⟨⟨lwA_mem (tb_3 (List.mem_of_getElem? (i := 114) rfl)) rfl, ini_X6, by decide, by decide +kernel, by decide⟩, lwA_mem (tb_3 (List.mem_of_getElem? (i := 113) rfl)) rfl, lwA_mem (List.mem_append_left _ (List.mem_map.mpr ⟨(yX6_minutesAlike, 15), (List.mem_append_right _ (List.mem_append_left _ (List.mem_of_getElem? (i := 6) rfl : (yX6_minutesAlike, 15) ∈ lw_privs_2))), rfl⟩)) rfl⟩
theorem mw_X6_minutesOfTaking : MWV yX6_minutesOfTaking cX6_minutesOfTaking 3 (some .int) 2 := ⟨⟨lwA_mem (tb_2 (List.mem_of_getElem? (i := 207) rfl)) rfl, ini_X6, by decide, by decide +kernel, by decide⟩, lwA_mem (tb_2 (List.mem_of_getElem? (i := 206) rfl)) rfl, lwA_mem (List.mem_append_left _ (List.mem_map.mpr ⟨(yX6_minutesOfTaking, 15), (List.mem_append_right _ (List.mem_append_left _ (List.mem_of_getElem? (i := 0) rfl : (yX6_minutesOfTaking, 15) ∈ lw_privs_2))), rfl⟩)) rfl⟩
theorem mw_X6_minutesOneByOne : MWV yX6_minutesOneByOne cX6_minutesOneByOne 5 (some .int) 2 := ⟨⟨lwA_mem (tb_3 (List.mem_of_getElem? (i := 106) rfl)) rfl, ini_X6, by decide, by decide +kernel, by decide⟩, lwA_mem (tb_3 (List.mem_of_getElem? (i := 105) rfl)) rfl, lwA_mem (List.mem_append_left _ (List.mem_map.mpr ⟨(yX6_minutesOneByOne, 15), (List.mem_append_right _ (List.mem_append_left _ (List.mem_of_getElem? (i := 5) rfl : (yX6_minutesOneByOne, 15) ∈ lw_privs_2))), rfl⟩)) rfl⟩
theorem mw_X6_now : MWV yX6_now cX6_now 2 (some .int) 1 := ⟨⟨lwA_mem (tb_2 (List.mem_of_getElem? (i := 190) rfl)) rfl, ini_X6, by decide, by decide +kernel, by decide⟩, lwA_mem (tb_2 (List.mem_of_getElem? (i := 188) rfl)) rfl, lwA_mem (tb_2 (List.mem_of_getElem? (i := 189) rfl)) rfl⟩
theorem mw_X6_odds : MWV yX6_odds cX6_odds 4 (some .long) 3 := ⟨⟨lwA_mem (tb_3 (List.mem_of_getElem? (i := 154) rfl)) rfl, ini_X6, by decide, by decide +kernel, by decide⟩, lwA_mem (tb_3 (List.mem_of_getElem? (i := 152) rfl)) rfl, lwA_mem (tb_3 (List.mem_of_getElem? (i := 153) rfl)) rfl⟩
theorem mw_X6_on : MWV yX6_on cX6_on 2 (some .int) 1 := ⟨⟨lwA_mem (tb_3 (List.mem_of_getElem? (i := 75) rfl)) rfl, ini_X6, by decide, by decide +kernel, by decide⟩, lwA_mem (tb_3 (List.mem_of_getElem? (i := 73) rfl)) rfl, lwA_mem (tb_3 (List.mem_of_getElem? (i := 74) rfl)) rfl⟩
theorem mw_X6_oneRoadOn : MWV yX6_oneRoadOn cX6_oneRoadOn 5 (some .int) 1 := ⟨⟨lwA_mem (tb_3 (List.mem_of_getElem? (i := 126) rfl)) rfl, ini_X6, by decide, by decide +kernel, by decide⟩, lwA_mem (tb_3 (List.mem_of_getElem? (i := 125) rfl)) rfl, lwA_mem (List.mem_append_left _ (List.mem_map.mpr ⟨(yX6_oneRoadOn, 15), (List.mem_append_right _ (List.mem_append_left _ (List.mem_of_getElem? (i := 7) rfl : (yX6_oneRoadOn, 15) ∈ lw_privs_2))), rfl⟩)) rfl⟩
theorem mw_X6_openRoads : MWV yX6_openRoads cX6_openRoads 1 (some .int) 0 := ⟨⟨lwA_mem (tb_2 (List.mem_of_getElem? (i := 182) rfl)) rfl, ini_X6, by decide, by decide +kernel, by decide⟩, lwA_mem (tb_2 (List.mem_of_getElem? (i := 181) rfl)) rfl, lwA_mem (List.mem_append_left _ (List.mem_map.mpr ⟨(yX6_openRoads, 15), (List.mem_append_left _ (List.mem_of_getElem? (i := 14) rfl : (yX6_openRoads, 15) ∈ lw_privs_1)), rfl⟩)) rfl⟩
theorem mw_X6_place : MWV yX6_place cX6_place 2 (some .int) 1 := ⟨⟨lwA_mem (tb_2 (List.mem_of_getElem? (i := 166) rfl)) rfl, ini_X6, by decide, by decide +kernel, by decide⟩, lwA_mem (tb_2 (List.mem_of_getElem? (i := 164) rfl)) rfl, lwA_mem (tb_2 (List.mem_of_getElem? (i := 165) rfl)) rfl⟩
theorem mw_X6_plans : MWV yX6_plans cX6_plans 2 (some .int) 1 := ⟨⟨lwA_mem (tb_3 (List.mem_of_getElem? (i := 90) rfl)) rfl, ini_X6, by decide, by decide +kernel, by decide⟩, lwA_mem (tb_3 (List.mem_of_getElem? (i := 88) rfl)) rfl, lwA_mem (tb_3 (List.mem_of_getElem? (i := 89) rfl)) rfl⟩
theorem mw_X6_rate : MWV yX6_rate cX6_rate 3 (some .int) 2 := ⟨⟨lwA_mem (tb_3 (List.mem_of_getElem? (i := 195) rfl)) rfl, ini_X6, by decide, by decide +kernel, by decide⟩, lwA_mem (tb_3 (List.mem_of_getElem? (i := 193) rfl)) rfl, lwA_mem (tb_3 (List.mem_of_getElem? (i := 194) rfl)) rfl⟩
theorem mw_X6_ratedAs : MWV yX6_ratedAs cX6_ratedAs 4 (some .int) 2 := ⟨⟨lwA_mem (tb_3 (List.mem_of_getElem? (i := 200) rfl)) rfl, ini_X6, by decide, by decide +kernel, by decide⟩, lwA_mem (tb_3 (List.mem_of_getElem? (i := 199) rfl)) rfl, lwA_mem (List.mem_append_left _ (List.mem_map.mpr ⟨(yX6_ratedAs, 15), (List.mem_append_right _ (List.mem_append_left _ (List.mem_of_getElem? (i := 13) rfl : (yX6_ratedAs, 15) ∈ lw_privs_2))), rfl⟩)) rfl⟩
theorem mw_X6_road : MWV yX6_road cX6_road 3 (some .int) 2 := ⟨⟨lwA_mem (tb_2 (List.mem_of_getElem? (i := 147) rfl)) rfl, ini_X6, by decide, by decide +kernel, by decide⟩, lwA_mem (tb_2 (List.mem_of_getElem? (i := 145) rfl)) rfl, lwA_mem (tb_2 (List.mem_of_getElem? (i := 146) rfl)) rfl⟩
theorem mw_X6_round : MWV yX6_round cX6_round 2 (some .int) 0 := ⟨⟨lwA_mem (tb_3 (List.mem_of_getElem? (i := 70) rfl)) rfl, ini_X6, by decide, by decide +kernel, by decide⟩, lwA_mem (tb_3 (List.mem_of_getElem? (i := 68) rfl)) rfl, lwA_mem (tb_3 (List.mem_of_getElem? (i := 69) rfl)) rfl⟩
theorem mw_X6_saw : MWV yX6_saw cX6_saw 3 (some .int) 2 := ⟨⟨lwA_mem (tb_3 (List.mem_of_getElem? (i := 130) rfl)) rfl, ini_X6, by decide, by decide +kernel, by decide⟩, lwA_mem (tb_3 (List.mem_of_getElem? (i := 128) rfl)) rfl, lwA_mem (tb_3 (List.mem_of_getElem? (i := 129) rfl)) rfl⟩
theorem mw_X6_shuts : MWV yX6_shuts cX6_shuts 3 (some .int) 2 := ⟨⟨lwA_mem (tb_3 (List.mem_of_getElem? (i := 4) rfl)) rfl, ini_X6, by decide, by decide +kernel, by decide⟩, lwA_mem (tb_3 (List.mem_of_getElem? (i := 2) rfl)) rfl, lwA_mem (tb_3 (List.mem_of_getElem? (i := 3) rfl)) rfl⟩
theorem mw_X6_takes : MWV yX6_takes cX6_takes 3 (some .int) 1 := ⟨⟨lwA_mem (tb_2 (List.mem_of_getElem? (i := 198) rfl)) rfl, ini_X6, by decide, by decide +kernel, by decide⟩, lwA_mem (tb_2 (List.mem_of_getElem? (i := 196) rfl)) rfl, lwA_mem (tb_2 (List.mem_of_getElem? (i := 197) rfl)) rfl⟩
theorem mw_X6_town : MWV yX6_town cX6_town 3 (some .int) 0 := ⟨⟨lwA_mem (tb_2 (List.mem_of_getElem? (i := 67) rfl)) rfl, ini_X6, by decide, by decide +kernel, by decide⟩, lwA_mem (tb_2 (List.mem_of_getElem? (i := 65) rfl)) rfl, lwA_mem (tb_2 (List.mem_of_getElem? (i := 66) rfl)) rfl⟩
theorem mw_X6_trace : MWV yX6_trace cX6_trace 1 (some .long) 0 := ⟨⟨lwA_mem (tb_3 (List.mem_of_getElem? (i := 221) rfl)) rfl, ini_X6, by decide, by decide +kernel, by decide⟩, lwA_mem (tb_3 (List.mem_of_getElem? (i := 219) rfl)) rfl, lwA_mem (tb_3 (List.mem_of_getElem? (i := 220) rfl)) rfl⟩
theorem mw_X6_tunnel : MWV yX6_tunnel cX6_tunnel 4 (some .int) 1 := ⟨⟨lwA_mem (tb_3 (List.mem_of_getElem? (i := 122) rfl)) rfl, ini_X6, by decide, by decide +kernel, by decide⟩, lwA_mem (tb_3 (List.mem_of_getElem? (i := 120) rfl)) rfl, lwA_mem (tb_3 (List.mem_of_getElem? (i := 121) rfl)) rfl⟩
theorem mw_X6_type : MWV yX6_type cX6_type 2 (some .int) 1 := ⟨⟨lwA_mem (tb_2 (List.mem_of_getElem? (i := 44) rfl)) rfl, ini_X6, by decide, by decide +kernel, by decide⟩, lwA_mem (tb_2 (List.mem_of_getElem? (i := 42) rfl)) rfl, lwA_mem (tb_2 (List.mem_of_getElem? (i := 43) rfl)) rfl⟩
theorem mw_X6_undo : MWV yX6_undo cX6_undo 1 (some .int) 0 := ⟨⟨lwA_mem (tb_3 (List.mem_of_getElem? (i := 14) rfl)) rfl, ini_X6, by decide, by decide +kernel, by decide⟩, lwA_mem (tb_3 (List.mem_of_getElem? (i := 12) rfl)) rfl, lwA_mem (tb_3 (List.mem_of_getElem? (i := 13) rfl)) rfl⟩
theorem mw_X6_way : MWV yX6_way cX6_way 3 (some .int) 1 := ⟨⟨lwA_mem (tb_3 (List.mem_of_getElem? (i := 22) rfl)) rfl, ini_X6, by decide, by decide +kernel, by decide⟩, lwA_mem (tb_3 (List.mem_of_getElem? (i := 20) rfl)) rfl, lwA_mem (tb_3 (List.mem_of_getElem? (i := 21) rfl)) rfl⟩
theorem mw_X6_where : MWV yX6_where cX6_where 4 (some .int) 1 := ⟨⟨lwA_mem (tb_3 (List.mem_of_getElem? (i := 138) rfl)) rfl, ini_X6, by decide, by decide +kernel, by decide⟩, lwA_mem (tb_3 (List.mem_of_getElem? (i := 136) rfl)) rfl, lwA_mem (tb_3 (List.mem_of_getElem? (i := 137) rfl)) rfl⟩
theorem mw_X6_which : MWV yX6_which cX6_which 5 (some .int) 2 := ⟨⟨lwA_mem (tb_3 (List.mem_of_getElem? (i := 146) rfl)) rfl, ini_X6, by decide, by decide +kernel, by decide⟩, lwA_mem (tb_3 (List.mem_of_getElem? (i := 144) rfl)) rfl, lwA_mem (tb_3 (List.mem_of_getElem? (i := 145) rfl)) rfl⟩
theorem mw_X6_worst : MWV yX6_worst cX6_worst 7 (some .int) 1 := ⟨⟨lwA_mem (tb_3 (List.mem_of_getElem? (i := 80) rfl)) rfl, ini_X6, by decide, by decide +kernel, by decide⟩, lwA_mem (tb_3 (List.mem_of_getElem? (i := 78) rfl)) rfl, lwA_mem (tb_3 (List.mem_of_getElem? (i := 79) rfl)) rfl⟩
theorem mw_X0_init : MW yX0_init cX0_init 1 none 0 := ⟨lwA_mem (tb_1 (List.mem_of_getElem? (i := 215) rfl)) rfl, ini_X0, by decide, by decide +kernel, by decide⟩
theorem mi_X0_init : yX0_init.name = "<init>" ∧ Cond.instanceMethod yX0_init ∈ lwA := ⟨rfl, lwA_mem (tb_1 (List.mem_of_getElem? (i := 214) rfl)) rfl⟩
theorem mw_X0_commonDivisor : MW yX0_commonDivisor cX0_commonDivisor 11 (some .long) 2 := ⟨lwA_mem (tb_3 (List.mem_of_getElem? (i := 168) rfl)) rfl, ini_X0, by decide, by decide +kernel, by decide⟩
theorem ms_X0_commonDivisor : Cond.static yX0_commonDivisor ∈ lwA := lwA_mem (tb_3 (List.mem_of_getElem? (i := 167) rfl)) rfl
theorem mw_X0_commonUnit : MWV yX0_commonUnit cX0_commonUnit 7 (some .long) 0 := ⟨⟨lwA_mem (tb_3 (List.mem_of_getElem? (i := 164) rfl)) rfl, ini_X0, by decide, by decide +kernel, by decide⟩, lwA_mem (tb_3 (List.mem_of_getElem? (i := 163) rfl)) rfl, lwA_mem (List.mem_append_left _ (List.mem_map.mpr ⟨(yX0_commonUnit, 4), (List.mem_append_right _ (List.mem_append_left _ (List.mem_of_getElem? (i := 9) rfl : (yX0_commonUnit, 4) ∈ lw_privs_2))), rfl⟩)) rfl⟩
theorem mw_X0_drive : MWV yX0_drive cX0_drive 8 none 4 := ⟨⟨lwA_mem (tb_3 (List.mem_of_getElem? (i := 159) rfl)) rfl, ini_X0, by decide, by decide +kernel, by decide⟩, lwA_mem (tb_3 (List.mem_of_getElem? (i := 157) rfl)) rfl, lwA_mem (tb_3 (List.mem_of_getElem? (i := 158) rfl)) rfl⟩
theorem mw_X0_inLeastTerms : MWV yX0_inLeastTerms cX0_inLeastTerms 6 (some .long) 2 := ⟨⟨lwA_mem (tb_3 (List.mem_of_getElem? (i := 187) rfl)) rfl, ini_X0, by decide, by decide +kernel, by decide⟩, lwA_mem (tb_3 (List.mem_of_getElem? (i := 186) rfl)) rfl, lwA_mem (List.mem_append_left _ (List.mem_map.mpr ⟨(yX0_inLeastTerms, 4), (List.mem_append_right _ (List.mem_append_left _ (List.mem_of_getElem? (i := 12) rfl : (yX0_inLeastTerms, 4) ∈ lw_privs_2))), rfl⟩)) rfl⟩
theorem mw_X0_lower : MWV yX0_lower cX0_lower 2 (some .long) 1 := ⟨⟨lwA_mem (tb_3 (List.mem_of_getElem? (i := 191) rfl)) rfl, ini_X0, by decide, by decide +kernel, by decide⟩, lwA_mem (tb_3 (List.mem_of_getElem? (i := 189) rfl)) rfl, lwA_mem (tb_3 (List.mem_of_getElem? (i := 190) rfl)) rfl⟩
theorem mw_X0_spread : MWV yX0_spread cX0_spread 6 none 3 := ⟨⟨lwA_mem (tb_3 (List.mem_of_getElem? (i := 176) rfl)) rfl, ini_X0, by decide, by decide +kernel, by decide⟩, lwA_mem (tb_3 (List.mem_of_getElem? (i := 175) rfl)) rfl, lwA_mem (List.mem_append_left _ (List.mem_map.mpr ⟨(yX0_spread, 4), (List.mem_append_right _ (List.mem_append_left _ (List.mem_of_getElem? (i := 11) rfl : (yX0_spread, 4) ∈ lw_privs_2))), rfl⟩)) rfl⟩
theorem mw_X0_takeAnyRoad : MWV yX0_takeAnyRoad cX0_takeAnyRoad 6 none 2 := ⟨⟨lwA_mem (tb_3 (List.mem_of_getElem? (i := 172) rfl)) rfl, ini_X0, by decide, by decide +kernel, by decide⟩, lwA_mem (tb_3 (List.mem_of_getElem? (i := 171) rfl)) rfl, lwA_mem (List.mem_append_left _ (List.mem_map.mpr ⟨(yX0_takeAnyRoad, 4), (List.mem_append_right _ (List.mem_append_left _ (List.mem_of_getElem? (i := 10) rfl : (yX0_takeAnyRoad, 4) ∈ lw_privs_2))), rfl⟩)) rfl⟩
theorem mw_X0_upper : MWV yX0_upper cX0_upper 2 (some .long) 1 := ⟨⟨lwA_mem (tb_3 (List.mem_of_getElem? (i := 183) rfl)) rfl, ini_X0, by decide, by decide +kernel, by decide⟩, lwA_mem (tb_3 (List.mem_of_getElem? (i := 181) rfl)) rfl, lwA_mem (tb_3 (List.mem_of_getElem? (i := 182) rfl)) rfl⟩
theorem mw_X1_init : MW yX1_init cX1_init 2 none 0 := ⟨lwA_mem (tb_1 (List.mem_of_getElem? (i := 156) rfl)) rfl, ini_X1, by decide, by decide +kernel, by decide⟩
theorem mi_X1_init : yX1_init.name = "<init>" ∧ Cond.instanceMethod yX1_init ∈ lwA := ⟨rfl, lwA_mem (tb_1 (List.mem_of_getElem? (i := 155) rfl)) rfl⟩
theorem mw_X1_lose : MWV yX1_lose cX1_lose 1 none 0 := ⟨⟨lwA_mem (tb_2 (List.mem_of_getElem? (i := 143) rfl)) rfl, ini_X1, by decide, by decide +kernel, by decide⟩, lwA_mem (tb_2 (List.mem_of_getElem? (i := 141) rfl)) rfl, lwA_mem (tb_2 (List.mem_of_getElem? (i := 142) rfl)) rfl⟩
theorem mw_X1_remember : MWV yX1_remember cX1_remember 2 none 1 := ⟨⟨lwA_mem (tb_2 (List.mem_of_getElem? (i := 221) rfl)) rfl, ini_X1, by decide, by decide +kernel, by decide⟩, lwA_mem (tb_2 (List.mem_of_getElem? (i := 219) rfl)) rfl, lwA_mem (tb_2 (List.mem_of_getElem? (i := 220) rfl)) rfl⟩
theorem mw_X1_restore : MWV yX1_restore cX1_restore 2 (some .boolean) 1 := ⟨⟨lwA_mem (tb_3 (List.mem_of_getElem? (i := 18) rfl)) rfl, ini_X1, by decide, by decide +kernel, by decide⟩, lwA_mem (tb_3 (List.mem_of_getElem? (i := 16) rfl)) rfl, lwA_mem (tb_3 (List.mem_of_getElem? (i := 17) rfl)) rfl⟩
theorem mw_X1_size : MWV yX1_size cX1_size 1 (some .int) 0 := ⟨⟨lwA_mem (tb_2 (List.mem_of_getElem? (i := 194) rfl)) rfl, ini_X1, by decide, by decide +kernel, by decide⟩, lwA_mem (tb_2 (List.mem_of_getElem? (i := 192) rfl)) rfl, lwA_mem (tb_2 (List.mem_of_getElem? (i := 193) rfl)) rfl⟩
theorem mw_X2_init : MW yX2_init cX2_init 1 none 0 := ⟨lwA_mem (tb_1 (List.mem_of_getElem? (i := 123) rfl)) rfl, ini_X2, by decide, by decide +kernel, by decide⟩
theorem mi_X2_init : yX2_init.name = "<init>" ∧ Cond.instanceMethod yX2_init ∈ lwA := ⟨rfl, lwA_mem (tb_1 (List.mem_of_getElem? (i := 122) rfl)) rfl⟩
theorem mw_X2_become : MWV yX2_become cX2_become 2 none 1 := ⟨⟨lwA_mem (tb_2 (List.mem_of_getElem? (i := 225) rfl)) rfl, ini_X2, by decide, by decide +kernel, by decide⟩, lwA_mem (tb_2 (List.mem_of_getElem? (i := 223) rfl)) rfl, lwA_mem (tb_2 (List.mem_of_getElem? (i := 224) rfl)) rfl⟩
theorem mw_X2_isShut : MWV yX2_isShut cX2_isShut 2 (some .boolean) 1 := ⟨⟨lwA_mem (tb_2 (List.mem_of_getElem? (i := 159) rfl)) rfl, ini_X2, by decide, by decide +kernel, by decide⟩, lwA_mem (tb_2 (List.mem_of_getElem? (i := 157) rfl)) rfl, lwA_mem (tb_2 (List.mem_of_getElem? (i := 158) rfl)) rfl⟩
theorem mw_X2_startAt : MWV yX2_startAt cX2_startAt 3 none 1 := ⟨⟨lwA_mem (tb_1 (List.mem_of_getElem? (i := 234) rfl)) rfl, ini_X2, by decide, by decide +kernel, by decide⟩, lwA_mem (tb_1 (List.mem_of_getElem? (i := 232) rfl)) rfl, lwA_mem (tb_1 (List.mem_of_getElem? (i := 233) rfl)) rfl⟩
theorem mw_X3_init : MW yX3_init cX3_init 1 none 0 := ⟨lwA_mem (tb_1 (List.mem_of_getElem? (i := 24) rfl)) rfl, ini_X3, by decide, by decide +kernel, by decide⟩
theorem mi_X3_init : yX3_init.name = "<init>" ∧ Cond.instanceMethod yX3_init ∈ lwA := ⟨rfl, lwA_mem (tb_1 (List.mem_of_getElem? (i := 23) rfl)) rfl⟩
theorem mw_X3_add : MWV yX3_add cX3_add 2 (some .boolean) 1 := ⟨⟨lwA_mem (tb_2 (List.mem_of_getElem? (i := 51) rfl)) rfl, ini_X3, by decide, by decide +kernel, by decide⟩, lwA_mem (tb_2 (List.mem_of_getElem? (i := 49) rfl)) rfl, lwA_mem (tb_2 (List.mem_of_getElem? (i := 50) rfl)) rfl⟩
theorem mw_X3_canBegin : MWV yX3_canBegin cX3_canBegin 4 (some .boolean) 3 := ⟨⟨lwA_mem (tb_2 (List.mem_of_getElem? (i := 95) rfl)) rfl, ini_X3, by decide, by decide +kernel, by decide⟩, lwA_mem (tb_2 (List.mem_of_getElem? (i := 94) rfl)) rfl, lwA_mem (List.mem_append_left _ (List.mem_map.mpr ⟨(yX3_canBegin, 9), (List.mem_append_left _ (List.mem_of_getElem? (i := 3) rfl : (yX3_canBegin, 9) ∈ lw_privs_1)), rfl⟩)) rfl⟩
theorem mw_X3_empty : MWV yX3_empty cX3_empty 2 (some .int) 0 := ⟨⟨lwA_mem (tb_2 (List.mem_of_getElem? (i := 63) rfl)) rfl, ini_X3, by decide, by decide +kernel, by decide⟩, lwA_mem (tb_2 (List.mem_of_getElem? (i := 61) rfl)) rfl, lwA_mem (tb_2 (List.mem_of_getElem? (i := 62) rfl)) rfl⟩
theorem mw_X3_isDigit : MW yX3_isDigit cX3_isDigit 1 (some .boolean) 1 := ⟨lwA_mem (tb_2 (List.mem_of_getElem? (i := 79) rfl)) rfl, ini_X3, by decide, by decide +kernel, by decide⟩
theorem ms_X3_isDigit : Cond.static yX3_isDigit ∈ lwA := lwA_mem (tb_2 (List.mem_of_getElem? (i := 78) rfl)) rfl
theorem mw_X3_isTokenLetter : MW yX3_isTokenLetter cX3_isTokenLetter 1 (some .boolean) 1 := ⟨lwA_mem (tb_2 (List.mem_of_getElem? (i := 87) rfl)) rfl, ini_X3, by decide, by decide +kernel, by decide⟩
theorem ms_X3_isTokenLetter : Cond.static yX3_isTokenLetter ∈ lwA := lwA_mem (tb_2 (List.mem_of_getElem? (i := 86) rfl)) rfl
theorem mw_X3_read : MWV yX3_read cX3_read 3 (some .int) 1 := ⟨⟨lwA_mem (tb_2 (List.mem_of_getElem? (i := 71) rfl)) rfl, ini_X3, by decide, by decide +kernel, by decide⟩, lwA_mem (tb_2 (List.mem_of_getElem? (i := 69) rfl)) rfl, lwA_mem (tb_2 (List.mem_of_getElem? (i := 70) rfl)) rfl⟩
theorem mw_X3_readDigits : MWV yX3_readDigits cX3_readDigits 4 none 0 := ⟨⟨lwA_mem (tb_2 (List.mem_of_getElem? (i := 84) rfl)) rfl, ini_X3, by decide, by decide +kernel, by decide⟩, lwA_mem (tb_2 (List.mem_of_getElem? (i := 83) rfl)) rfl, lwA_mem (List.mem_append_left _ (List.mem_map.mpr ⟨(yX3_readDigits, 9), (List.mem_append_left _ (List.mem_of_getElem? (i := 1) rfl : (yX3_readDigits, 9) ∈ lw_privs_1)), rfl⟩)) rfl⟩
theorem mw_X3_readGoal : MWV yX3_readGoal cX3_readGoal 4 (some .boolean) 1 := ⟨⟨lwA_mem (tb_2 (List.mem_of_getElem? (i := 127) rfl)) rfl, ini_X3, by decide, by decide +kernel, by decide⟩, lwA_mem (tb_2 (List.mem_of_getElem? (i := 126) rfl)) rfl, lwA_mem (List.mem_append_left _ (List.mem_map.mpr ⟨(yX3_readGoal, 9), (List.mem_append_left _ (List.mem_of_getElem? (i := 9) rfl : (yX3_readGoal, 9) ∈ lw_privs_1)), rfl⟩)) rfl⟩
theorem mw_X3_readItem : MWV yX3_readItem cX3_readItem 4 (some .boolean) 2 := ⟨⟨lwA_mem (tb_2 (List.mem_of_getElem? (i := 91) rfl)) rfl, ini_X3, by decide, by decide +kernel, by decide⟩, lwA_mem (tb_2 (List.mem_of_getElem? (i := 90) rfl)) rfl, lwA_mem (List.mem_append_left _ (List.mem_map.mpr ⟨(yX3_readItem, 9), (List.mem_append_left _ (List.mem_of_getElem? (i := 2) rfl : (yX3_readItem, 9) ∈ lw_privs_1)), rfl⟩)) rfl⟩
theorem mw_X3_readLoad : MWV yX3_readLoad cX3_readLoad 3 (some .boolean) 1 := ⟨⟨lwA_mem (tb_2 (List.mem_of_getElem? (i := 135) rfl)) rfl, ini_X3, by decide, by decide +kernel, by decide⟩, lwA_mem (tb_2 (List.mem_of_getElem? (i := 134) rfl)) rfl, lwA_mem (List.mem_append_left _ (List.mem_map.mpr ⟨(yX3_readLoad, 9), (List.mem_append_left _ (List.mem_of_getElem? (i := 11) rfl : (yX3_readLoad, 9) ∈ lw_privs_1)), rfl⟩)) rfl⟩
theorem mw_X3_readNerves : MWV yX3_readNerves cX3_readNerves 3 (some .boolean) 1 := ⟨⟨lwA_mem (tb_2 (List.mem_of_getElem? (i := 131) rfl)) rfl, ini_X3, by decide, by decide +kernel, by decide⟩, lwA_mem (tb_2 (List.mem_of_getElem? (i := 130) rfl)) rfl, lwA_mem (List.mem_append_left _ (List.mem_map.mpr ⟨(yX3_readNerves, 9), (List.mem_append_left _ (List.mem_of_getElem? (i := 10) rfl : (yX3_readNerves, 9) ∈ lw_privs_1)), rfl⟩)) rfl⟩
theorem mw_X3_readNumber : MWV yX3_readNumber cX3_readNumber 5 (some .int) 3 := ⟨⟨lwA_mem (tb_2 (List.mem_of_getElem? (i := 107) rfl)) rfl, ini_X3, by decide, by decide +kernel, by decide⟩, lwA_mem (tb_2 (List.mem_of_getElem? (i := 106) rfl)) rfl, lwA_mem (List.mem_append_left _ (List.mem_map.mpr ⟨(yX3_readNumber, 9), (List.mem_append_left _ (List.mem_of_getElem? (i := 6) rfl : (yX3_readNumber, 9) ∈ lw_privs_1)), rfl⟩)) rfl⟩
theorem mw_X3_readNumbers : MWV yX3_readNumbers cX3_readNumbers 3 (some .boolean) 2 := ⟨⟨lwA_mem (tb_2 (List.mem_of_getElem? (i := 99) rfl)) rfl, ini_X3, by decide, by decide +kernel, by decide⟩, lwA_mem (tb_2 (List.mem_of_getElem? (i := 98) rfl)) rfl, lwA_mem (List.mem_append_left _ (List.mem_map.mpr ⟨(yX3_readNumbers, 9), (List.mem_append_left _ (List.mem_of_getElem? (i := 4) rfl : (yX3_readNumbers, 9) ∈ lw_privs_1)), rfl⟩)) rfl⟩
theorem mw_X3_readPlaces : MWV yX3_readPlaces cX3_readPlaces 3 (some .boolean) 1 := ⟨⟨lwA_mem (tb_2 (List.mem_of_getElem? (i := 103) rfl)) rfl, ini_X3, by decide, by decide +kernel, by decide⟩, lwA_mem (tb_2 (List.mem_of_getElem? (i := 102) rfl)) rfl, lwA_mem (List.mem_append_left _ (List.mem_map.mpr ⟨(yX3_readPlaces, 9), (List.mem_append_left _ (List.mem_of_getElem? (i := 5) rfl : (yX3_readPlaces, 9) ∈ lw_privs_1)), rfl⟩)) rfl⟩
theorem mw_X3_readRoad : MWV yX3_readRoad cX3_readRoad 5 (some .boolean) 1 := ⟨⟨lwA_mem (tb_2 (List.mem_of_getElem? (i := 111) rfl)) rfl, ini_X3, by decide, by decide +kernel, by decide⟩, lwA_mem (tb_2 (List.mem_of_getElem? (i := 110) rfl)) rfl, lwA_mem (List.mem_append_left _ (List.mem_map.mpr ⟨(yX3_readRoad, 9), (List.mem_append_left _ (List.mem_of_getElem? (i := 7) rfl : (yX3_readRoad, 9) ∈ lw_privs_1)), rfl⟩)) rfl⟩
theorem mw_X3_readStraight : MWV yX3_readStraight cX3_readStraight 4 (some .boolean) 1 := ⟨⟨lwA_mem (tb_2 (List.mem_of_getElem? (i := 119) rfl)) rfl, ini_X3, by decide, by decide +kernel, by decide⟩, lwA_mem (tb_2 (List.mem_of_getElem? (i := 118) rfl)) rfl, lwA_mem (List.mem_append_left _ (List.mem_map.mpr ⟨(yX3_readStraight, 9), (List.mem_append_left _ (List.mem_of_getElem? (i := 8) rfl : (yX3_readStraight, 9) ∈ lw_privs_1)), rfl⟩)) rfl⟩
theorem mw_X3_readToken : MWV yX3_readToken cX3_readToken 1 none 0 := ⟨⟨lwA_mem (tb_2 (List.mem_of_getElem? (i := 76) rfl)) rfl, ini_X3, by decide, by decide +kernel, by decide⟩, lwA_mem (tb_2 (List.mem_of_getElem? (i := 75) rfl)) rfl, lwA_mem (List.mem_append_left _ (List.mem_map.mpr ⟨(yX3_readToken, 9), (List.mem_append_left _ (List.mem_of_getElem? (i := 0) rfl : (yX3_readToken, 9) ∈ lw_privs_1)), rfl⟩)) rfl⟩
theorem mw_X3_size : MWV yX3_size cX3_size 1 (some .int) 0 := ⟨⟨lwA_mem (tb_2 (List.mem_of_getElem? (i := 55) rfl)) rfl, ini_X3, by decide, by decide +kernel, by decide⟩, lwA_mem (tb_2 (List.mem_of_getElem? (i := 53) rfl)) rfl, lwA_mem (tb_2 (List.mem_of_getElem? (i := 54) rfl)) rfl⟩
theorem mw_X4_init : MW yX4_init cX4_init 1 none 0 := ⟨lwA_mem (tb_1 (List.mem_of_getElem? (i := 59) rfl)) rfl, ini_X4, by decide, by decide +kernel, by decide⟩
theorem mi_X4_init : yX4_init.name = "<init>" ∧ Cond.instanceMethod yX4_init ∈ lwA := ⟨rfl, lwA_mem (tb_1 (List.mem_of_getElem? (i := 58) rfl)) rfl⟩
theorem mw_X4_addRoad : MWV yX4_addRoad cX4_addRoad 4 none 3 := ⟨⟨lwA_mem (tb_2 (List.mem_of_getElem? (i := 115) rfl)) rfl, ini_X4, by decide, by decide +kernel, by decide⟩, lwA_mem (tb_2 (List.mem_of_getElem? (i := 113) rfl)) rfl, lwA_mem (tb_2 (List.mem_of_getElem? (i := 114) rfl)) rfl⟩
theorem mw_X4_allRoads : MWV yX4_allRoads cX4_allRoads 1 (some .int) 0 := ⟨⟨lwA_mem (tb_2 (List.mem_of_getElem? (i := 186) rfl)) rfl, ini_X4, by decide, by decide +kernel, by decide⟩, lwA_mem (tb_2 (List.mem_of_getElem? (i := 184) rfl)) rfl, lwA_mem (tb_2 (List.mem_of_getElem? (i := 185) rfl)) rfl⟩
theorem mw_X4_beAsAtFirst : MWV yX4_beAsAtFirst cX4_beAsAtFirst 1 none 0 := ⟨⟨lwA_mem (tb_1 (List.mem_of_getElem? (i := 64) rfl)) rfl, ini_X4, by decide, by decide +kernel, by decide⟩, lwA_mem (tb_1 (List.mem_of_getElem? (i := 62) rfl)) rfl, lwA_mem (tb_1 (List.mem_of_getElem? (i := 63) rfl)) rfl⟩
theorem mw_X4_hasPlace : MWV yX4_hasPlace cX4_hasPlace 2 (some .boolean) 1 := ⟨⟨lwA_mem (tb_2 (List.mem_of_getElem? (i := 170) rfl)) rfl, ini_X4, by decide, by decide +kernel, by decide⟩, lwA_mem (tb_2 (List.mem_of_getElem? (i := 168) rfl)) rfl, lwA_mem (tb_2 (List.mem_of_getElem? (i := 169) rfl)) rfl⟩
theorem mw_X4_hasRoad : MWV yX4_hasRoad cX4_hasRoad 2 (some .boolean) 1 := ⟨⟨lwA_mem (tb_2 (List.mem_of_getElem? (i := 151) rfl)) rfl, ini_X4, by decide, by decide +kernel, by decide⟩, lwA_mem (tb_2 (List.mem_of_getElem? (i := 149) rfl)) rfl, lwA_mem (tb_2 (List.mem_of_getElem? (i := 150) rfl)) rfl⟩
theorem mw_X4_isTurn : MWV yX4_isTurn cX4_isTurn 3 (some .boolean) 2 := ⟨⟨lwA_mem (tb_2 (List.mem_of_getElem? (i := 215) rfl)) rfl, ini_X4, by decide, by decide +kernel, by decide⟩, lwA_mem (tb_2 (List.mem_of_getElem? (i := 213) rfl)) rfl, lwA_mem (tb_2 (List.mem_of_getElem? (i := 214) rfl)) rfl⟩
theorem mw_X4_makeStraight : MWV yX4_makeStraight cX4_makeStraight 3 none 2 := ⟨⟨lwA_mem (tb_2 (List.mem_of_getElem? (i := 123) rfl)) rfl, ini_X4, by decide, by decide +kernel, by decide⟩, lwA_mem (tb_2 (List.mem_of_getElem? (i := 121) rfl)) rfl, lwA_mem (tb_2 (List.mem_of_getElem? (i := 122) rfl)) rfl⟩
theorem mw_X4_meets : MWV yX4_meets cX4_meets 3 (some .boolean) 2 := ⟨⟨lwA_mem (tb_2 (List.mem_of_getElem? (i := 178) rfl)) rfl, ini_X4, by decide, by decide +kernel, by decide⟩, lwA_mem (tb_2 (List.mem_of_getElem? (i := 176) rfl)) rfl, lwA_mem (tb_2 (List.mem_of_getElem? (i := 177) rfl)) rfl⟩
theorem mw_X4_nervesFor : MWV yX4_nervesFor cX4_nervesFor 3 (some .int) 2 := ⟨⟨lwA_mem (tb_2 (List.mem_of_getElem? (i := 211) rfl)) rfl, ini_X4, by decide, by decide +kernel, by decide⟩, lwA_mem (tb_2 (List.mem_of_getElem? (i := 209) rfl)) rfl, lwA_mem (tb_2 (List.mem_of_getElem? (i := 210) rfl)) rfl⟩
theorem mw_X4_otherEnd : MWV yX4_otherEnd cX4_otherEnd 3 (some .int) 2 := ⟨⟨lwA_mem (tb_2 (List.mem_of_getElem? (i := 236) rfl)) rfl, ini_X4, by decide, by decide +kernel, by decide⟩, lwA_mem (tb_2 (List.mem_of_getElem? (i := 234) rfl)) rfl, lwA_mem (tb_2 (List.mem_of_getElem? (i := 235) rfl)) rfl⟩
theorem mw_X4_roadsAt : MWV yX4_roadsAt cX4_roadsAt 4 (some .int) 1 := ⟨⟨lwA_mem (tb_2 (List.mem_of_getElem? (i := 174) rfl)) rfl, ini_X4, by decide, by decide +kernel, by decide⟩, lwA_mem (tb_2 (List.mem_of_getElem? (i := 172) rfl)) rfl, lwA_mem (tb_2 (List.mem_of_getElem? (i := 173) rfl)) rfl⟩
theorem mw_X5_init : MW yX5_init cX5_init 1 none 0 := ⟨lwA_mem (tb_1 (List.mem_of_getElem? (i := 175) rfl)) rfl, ini_X5, by decide, by decide +kernel, by decide⟩
theorem mi_X5_init : yX5_init.name = "<init>" ∧ Cond.instanceMethod yX5_init ∈ lwA := ⟨rfl, lwA_mem (tb_1 (List.mem_of_getElem? (i := 174) rfl)) rfl⟩
theorem mw_X5_firstRoad : MWV yX5_firstRoad cX5_firstRoad 7 (some .int) 2 := ⟨⟨lwA_mem (tb_3 (List.mem_of_getElem? (i := 55) rfl)) rfl, ini_X5, by decide, by decide +kernel, by decide⟩, lwA_mem (tb_3 (List.mem_of_getElem? (i := 53) rfl)) rfl, lwA_mem (tb_3 (List.mem_of_getElem? (i := 54) rfl)) rfl⟩
theorem mw_X5_follow : MWV yX5_follow cX5_follow 6 (some .int) 2 := ⟨⟨lwA_mem (tb_3 (List.mem_of_getElem? (i := 51) rfl)) rfl, ini_X5, by decide, by decide +kernel, by decide⟩, lwA_mem (tb_3 (List.mem_of_getElem? (i := 49) rfl)) rfl, lwA_mem (tb_3 (List.mem_of_getElem? (i := 50) rfl)) rfl⟩
theorem mw_X5_look : MWV yX5_look cX5_look 4 none 2 := ⟨⟨lwA_mem (tb_3 (List.mem_of_getElem? (i := 26) rfl)) rfl, ini_X5, by decide, by decide +kernel, by decide⟩, lwA_mem (tb_3 (List.mem_of_getElem? (i := 24) rfl)) rfl, lwA_mem (tb_3 (List.mem_of_getElem? (i := 25) rfl)) rfl⟩
theorem mw_X5_lookAtOpen : MWV yX5_lookAtOpen cX5_lookAtOpen 2 none 1 := ⟨⟨lwA_mem (tb_3 (List.mem_of_getElem? (i := 86) rfl)) rfl, ini_X5, by decide, by decide +kernel, by decide⟩, lwA_mem (tb_3 (List.mem_of_getElem? (i := 84) rfl)) rfl, lwA_mem (tb_3 (List.mem_of_getElem? (i := 85) rfl)) rfl⟩
theorem mw_X5_lookBehindRow : MWV yX5_lookBehindRow cX5_lookBehindRow 3 none 1 := ⟨⟨lwA_mem (tb_3 (List.mem_of_getElem? (i := 110) rfl)) rfl, ini_X5, by decide, by decide +kernel, by decide⟩, lwA_mem (tb_3 (List.mem_of_getElem? (i := 108) rfl)) rfl, lwA_mem (tb_3 (List.mem_of_getElem? (i := 109) rfl)) rfl⟩
theorem mw_X5_measure : MWV yX5_measure cX5_measure 4 none 0 := ⟨⟨lwA_mem (tb_3 (List.mem_of_getElem? (i := 31) rfl)) rfl, ini_X5, by decide, by decide +kernel, by decide⟩, lwA_mem (tb_3 (List.mem_of_getElem? (i := 30) rfl)) rfl, lwA_mem (List.mem_append_left _ (List.mem_map.mpr ⟨(yX5_measure, 9), (List.mem_append_right _ (List.mem_append_left _ (List.mem_of_getElem? (i := 1) rfl : (yX5_measure, 9) ∈ lw_privs_2))), rfl⟩)) rfl⟩
theorem mw_X5_measureBefore : MWV yX5_measureBefore cX5_measureBefore 7 none 2 := ⟨⟨lwA_mem (tb_3 (List.mem_of_getElem? (i := 44) rfl)) rfl, ini_X5, by decide, by decide +kernel, by decide⟩, lwA_mem (tb_3 (List.mem_of_getElem? (i := 43) rfl)) rfl, lwA_mem (List.mem_append_left _ (List.mem_map.mpr ⟨(yX5_measureBefore, 9), (List.mem_append_right _ (List.mem_append_left _ (List.mem_of_getElem? (i := 4) rfl : (yX5_measureBefore, 9) ∈ lw_privs_2))), rfl⟩)) rfl⟩
theorem mw_X5_meetingsInRow : MWV yX5_meetingsInRow cX5_meetingsInRow 3 (some .int) 0 := ⟨⟨lwA_mem (tb_3 (List.mem_of_getElem? (i := 118) rfl)) rfl, ini_X5, by decide, by decide +kernel, by decide⟩, lwA_mem (tb_3 (List.mem_of_getElem? (i := 116) rfl)) rfl, lwA_mem (tb_3 (List.mem_of_getElem? (i := 117) rfl)) rfl⟩
theorem mw_X5_minutesBy : MWV yX5_minutesBy cX5_minutesBy 5 (some .int) 3 := ⟨⟨lwA_mem (tb_3 (List.mem_of_getElem? (i := 60) rfl)) rfl, ini_X5, by decide, by decide +kernel, by decide⟩, lwA_mem (tb_3 (List.mem_of_getElem? (i := 58) rfl)) rfl, lwA_mem (tb_3 (List.mem_of_getElem? (i := 59) rfl)) rfl⟩
theorem mw_X5_minutesFrom : MWV yX5_minutesFrom cX5_minutesFrom 4 (some .int) 2 := ⟨⟨lwA_mem (tb_3 (List.mem_of_getElem? (i := 66) rfl)) rfl, ini_X5, by decide, by decide +kernel, by decide⟩, lwA_mem (tb_3 (List.mem_of_getElem? (i := 64) rfl)) rfl, lwA_mem (tb_3 (List.mem_of_getElem? (i := 65) rfl)) rfl⟩
theorem mw_X5_minutesWithLonger : MWV yX5_minutesWithLonger cX5_minutesWithLonger 5 (some .int) 3 := ⟨⟨lwA_mem (tb_3 (List.mem_of_getElem? (i := 150) rfl)) rfl, ini_X5, by decide, by decide +kernel, by decide⟩, lwA_mem (tb_3 (List.mem_of_getElem? (i := 148) rfl)) rfl, lwA_mem (tb_3 (List.mem_of_getElem? (i := 149) rfl)) rfl⟩
theorem mw_X5_nearestUnsettled : MWV yX5_nearestUnsettled cX5_nearestUnsettled 5 (some .int) 1 := ⟨⟨lwA_mem (tb_3 (List.mem_of_getElem? (i := 40) rfl)) rfl, ini_X5, by decide, by decide +kernel, by decide⟩, lwA_mem (tb_3 (List.mem_of_getElem? (i := 39) rfl)) rfl, lwA_mem (List.mem_append_left _ (List.mem_map.mpr ⟨(yX5_nearestUnsettled, 9), (List.mem_append_right _ (List.mem_append_left _ (List.mem_of_getElem? (i := 3) rfl : (yX5_nearestUnsettled, 9) ∈ lw_privs_2))), rfl⟩)) rfl⟩
theorem mw_X5_placeOf : MWV yX5_placeOf cX5_placeOf 3 (some .int) 1 := ⟨⟨lwA_mem (tb_3 (List.mem_of_getElem? (i := 35) rfl)) rfl, ini_X5, by decide, by decide +kernel, by decide⟩, lwA_mem (tb_3 (List.mem_of_getElem? (i := 34) rfl)) rfl, lwA_mem (List.mem_append_left _ (List.mem_map.mpr ⟨(yX5_placeOf, 9), (List.mem_append_right _ (List.mem_append_left _ (List.mem_of_getElem? (i := 2) rfl : (yX5_placeOf, 9) ∈ lw_privs_2))), rfl⟩)) rfl⟩
theorem mw_X7_init : MW yX7_init cX7_init 1 none 0 := ⟨lwA_mem (tb_3 (List.mem_of_getElem? (i := 226) rfl)) rfl, ini_X7, by decide, by decide +kernel, by decide⟩
theorem mi_X7_init : yX7_init.name = "<init>" ∧ Cond.instanceMethod yX7_init ∈ lwA := ⟨rfl, lwA_mem (tb_3 (List.mem_of_getElem? (i := 225) rfl)) rfl⟩
theorem mw_X7_advances : MWV yX7_advances cX7_advances 2 none 0 := ⟨⟨lwA_mem (tb_4 (List.mem_of_getElem? (i := 108) rfl)) rfl, ini_X7, by decide, by decide +kernel, by decide⟩, lwA_mem (tb_4 (List.mem_of_getElem? (i := 107) rfl)) rfl, lwA_mem (List.mem_append_left _ (List.mem_map.mpr ⟨(yX7_advances, 31), (List.mem_append_right _ (List.mem_append_right _ (List.mem_append_left _ (List.mem_of_getElem? (i := 0) rfl : (yX7_advances, 31) ∈ lw_privs_3)))), rfl⟩)) rfl⟩
theorem mw_X7_asNow : MWV yX7_asNow cX7_asNow 2 none 0 := ⟨⟨lwA_mem (tb_4 (List.mem_of_getElem? (i := 182) rfl)) rfl, ini_X7, by decide, by decide +kernel, by decide⟩, lwA_mem (tb_4 (List.mem_of_getElem? (i := 181) rfl)) rfl, lwA_mem (List.mem_append_left _ (List.mem_map.mpr ⟨(yX7_asNow, 31), (List.mem_append_right _ (List.mem_append_right _ (List.mem_append_left _ (List.mem_of_getElem? (i := 13) rfl : (yX7_asNow, 31) ∈ lw_privs_3)))), rfl⟩)) rfl⟩
theorem mw_X7_back : MWV yX7_back cX7_back 3 (some .int) 1 := ⟨⟨lwA_mem (tb_5 (List.mem_of_getElem? (i := 81) rfl)) rfl, ini_X7, by decide, by decide +kernel, by decide⟩, lwA_mem (tb_5 (List.mem_of_getElem? (i := 79) rfl)) rfl, lwA_mem (tb_5 (List.mem_of_getElem? (i := 80) rfl)) rfl⟩
theorem mw_X7_begins : MWV yX7_begins cX7_begins 2 none 0 := ⟨⟨lwA_mem (tb_3 (List.mem_of_getElem? (i := 231) rfl)) rfl, ini_X7, by decide, by decide +kernel, by decide⟩, lwA_mem (tb_3 (List.mem_of_getElem? (i := 230) rfl)) rfl, lwA_mem (List.mem_append_left _ (List.mem_map.mpr ⟨(yX7_begins, 31), (List.mem_append_right _ (List.mem_append_left _ (List.mem_of_getElem? (i := 14) rfl : (yX7_begins, 31) ∈ lw_privs_2))), rfl⟩)) rfl⟩
theorem mw_X7_bitOf : MW yX7_bitOf cX7_bitOf 1 (some .int) 1 := ⟨lwA_mem (tb_4 (List.mem_of_getElem? (i := 126) rfl)) rfl, ini_X7, by decide, by decide +kernel, by decide⟩
theorem ms_X7_bitOf : Cond.static yX7_bitOf ∈ lwA := lwA_mem (tb_4 (List.mem_of_getElem? (i := 125) rfl)) rfl
theorem mw_X7_cars : MWV yX7_cars cX7_cars 7 (some .int) 2 := ⟨⟨lwA_mem (tb_5 (List.mem_of_getElem? (i := 26) rfl)) rfl, ini_X7, by decide, by decide +kernel, by decide⟩, lwA_mem (tb_5 (List.mem_of_getElem? (i := 24) rfl)) rfl, lwA_mem (tb_5 (List.mem_of_getElem? (i := 25) rfl)) rfl⟩
theorem mw_X7_clear : MWV yX7_clear cX7_clear 2 (some .int) 0 := ⟨⟨lwA_mem (tb_4 (List.mem_of_getElem? (i := 100) rfl)) rfl, ini_X7, by decide, by decide +kernel, by decide⟩, lwA_mem (tb_4 (List.mem_of_getElem? (i := 98) rfl)) rfl, lwA_mem (tb_4 (List.mem_of_getElem? (i := 99) rfl)) rfl⟩
theorem mw_X7_cost : MWV yX7_cost cX7_cost 3 (some .int) 2 := ⟨⟨lwA_mem (tb_4 (List.mem_of_getElem? (i := 186) rfl)) rfl, ini_X7, by decide, by decide +kernel, by decide⟩, lwA_mem (tb_4 (List.mem_of_getElem? (i := 185) rfl)) rfl, lwA_mem (List.mem_append_left _ (List.mem_map.mpr ⟨(yX7_cost, 31), (List.mem_append_right _ (List.mem_append_right _ (List.mem_append_left _ (List.mem_of_getElem? (i := 14) rfl : (yX7_cost, 31) ∈ lw_privs_3)))), rfl⟩)) rfl⟩
theorem mw_X7_count : MWV yX7_count cX7_count 2 (some .int) 1 := ⟨⟨lwA_mem (tb_5 (List.mem_of_getElem? (i := 85) rfl)) rfl, ini_X7, by decide, by decide +kernel, by decide⟩, lwA_mem (tb_5 (List.mem_of_getElem? (i := 83) rfl)) rfl, lwA_mem (tb_5 (List.mem_of_getElem? (i := 84) rfl)) rfl⟩
theorem mw_X7_drops : MWV yX7_drops cX7_drops 2 (some .int) 0 := ⟨⟨lwA_mem (tb_5 (List.mem_of_getElem? (i := 18) rfl)) rfl, ini_X7, by decide, by decide +kernel, by decide⟩, lwA_mem (tb_5 (List.mem_of_getElem? (i := 16) rfl)) rfl, lwA_mem (tb_5 (List.mem_of_getElem? (i := 17) rfl)) rfl⟩
theorem mw_X7_farFrom : MWV yX7_farFrom cX7_farFrom 6 (some .int) 2 := ⟨⟨lwA_mem (tb_4 (List.mem_of_getElem? (i := 226) rfl)) rfl, ini_X7, by decide, by decide +kernel, by decide⟩, lwA_mem (tb_4 (List.mem_of_getElem? (i := 225) rfl)) rfl, lwA_mem (List.mem_append_left _ (List.mem_map.mpr ⟨(yX7_farFrom, 31), (List.mem_append_right _ (List.mem_append_right _ (List.mem_append_right _ (List.mem_of_getElem? (i := 3) rfl : (yX7_farFrom, 31) ∈ lw_privs_4)))), rfl⟩)) rfl⟩
theorem mw_X7_firstFrom : MWV yX7_firstFrom cX7_firstFrom 7 (some .int) 2 := ⟨⟨lwA_mem (tb_4 (List.mem_of_getElem? (i := 238) rfl)) rfl, ini_X7, by decide, by decide +kernel, by decide⟩, lwA_mem (tb_4 (List.mem_of_getElem? (i := 237) rfl)) rfl, lwA_mem (List.mem_append_left _ (List.mem_map.mpr ⟨(yX7_firstFrom, 31), (List.mem_append_right _ (List.mem_append_right _ (List.mem_append_right _ (List.mem_of_getElem? (i := 6) rfl : (yX7_firstFrom, 31) ∈ lw_privs_4)))), rfl⟩)) rfl⟩
theorem mw_X7_forget : MWV yX7_forget cX7_forget 2 (some .int) 0 := ⟨⟨lwA_mem (tb_5 (List.mem_of_getElem? (i := 46) rfl)) rfl, ini_X7, by decide, by decide +kernel, by decide⟩, lwA_mem (tb_5 (List.mem_of_getElem? (i := 44) rfl)) rfl, lwA_mem (tb_5 (List.mem_of_getElem? (i := 45) rfl)) rfl⟩
theorem mw_X7_gcd : MW yX7_gcd cX7_gcd 10 (some .long) 2 := ⟨lwA_mem (tb_5 (List.mem_of_getElem? (i := 63) rfl)) rfl, ini_X7, by decide, by decide +kernel, by decide⟩
theorem ms_X7_gcd : Cond.static yX7_gcd ∈ lwA := lwA_mem (tb_5 (List.mem_of_getElem? (i := 62) rfl)) rfl
theorem mw_X7_his : MWV yX7_his cX7_his 7 (some .int) 1 := ⟨⟨lwA_mem (tb_5 (List.mem_of_getElem? (i := 22) rfl)) rfl, ini_X7, by decide, by decide +kernel, by decide⟩, lwA_mem (tb_5 (List.mem_of_getElem? (i := 20) rfl)) rfl, lwA_mem (tb_5 (List.mem_of_getElem? (i := 21) rfl)) rfl⟩
theorem mw_X7_in : MW yX7_in cX7_in 3 (some .boolean) 3 := ⟨lwA_mem (tb_4 (List.mem_of_getElem? (i := 96) rfl)) rfl, ini_X7, by decide, by decide +kernel, by decide⟩
theorem ms_X7_in : Cond.static yX7_in ∈ lwA := lwA_mem (tb_4 (List.mem_of_getElem? (i := 95) rfl)) rfl
theorem mw_X7_isAt : MWV yX7_isAt cX7_isAt 3 (some .boolean) 2 := ⟨⟨lwA_mem (tb_4 (List.mem_of_getElem? (i := 170) rfl)) rfl, ini_X7, by decide, by decide +kernel, by decide⟩, lwA_mem (tb_4 (List.mem_of_getElem? (i := 169) rfl)) rfl, lwA_mem (List.mem_append_left _ (List.mem_map.mpr ⟨(yX7_isAt, 31), (List.mem_append_right _ (List.mem_append_right _ (List.mem_append_left _ (List.mem_of_getElem? (i := 12) rfl : (yX7_isAt, 31) ∈ lw_privs_3)))), rfl⟩)) rfl⟩
theorem mw_X7_isLetter : MW yX7_isLetter cX7_isLetter 1 (some .boolean) 1 := ⟨lwA_mem (tb_4 (List.mem_of_getElem? (i := 115) rfl)) rfl, ini_X7, by decide, by decide +kernel, by decide⟩
theorem ms_X7_isLetter : Cond.static yX7_isLetter ∈ lwA := lwA_mem (tb_4 (List.mem_of_getElem? (i := 114) rfl)) rfl
theorem mw_X7_isPlace : MWV yX7_isPlace cX7_isPlace 2 (some .boolean) 1 := ⟨⟨lwA_mem (tb_4 (List.mem_of_getElem? (i := 158) rfl)) rfl, ini_X7, by decide, by decide +kernel, by decide⟩, lwA_mem (tb_4 (List.mem_of_getElem? (i := 157) rfl)) rfl, lwA_mem (List.mem_append_left _ (List.mem_map.mpr ⟨(yX7_isPlace, 31), (List.mem_append_right _ (List.mem_append_right _ (List.mem_append_left _ (List.mem_of_getElem? (i := 9) rfl : (yX7_isPlace, 31) ∈ lw_privs_3)))), rfl⟩)) rfl⟩
theorem mw_X7_isRoad : MWV yX7_isRoad cX7_isRoad 2 (some .boolean) 1 := ⟨⟨lwA_mem (tb_4 (List.mem_of_getElem? (i := 150) rfl)) rfl, ini_X7, by decide, by decide +kernel, by decide⟩, lwA_mem (tb_4 (List.mem_of_getElem? (i := 149) rfl)) rfl, lwA_mem (List.mem_append_left _ (List.mem_map.mpr ⟨(yX7_isRoad, 31), (List.mem_append_right _ (List.mem_append_right _ (List.mem_append_left _ (List.mem_of_getElem? (i := 8) rfl : (yX7_isRoad, 31) ∈ lw_privs_3)))), rfl⟩)) rfl⟩
theorem mw_X7_isTurn : MWV yX7_isTurn cX7_isTurn 3 (some .boolean) 2 := ⟨⟨lwA_mem (tb_4 (List.mem_of_getElem? (i := 190) rfl)) rfl, ini_X7, by decide, by decide +kernel, by decide⟩, lwA_mem (tb_4 (List.mem_of_getElem? (i := 189) rfl)) rfl, lwA_mem (List.mem_append_left _ (List.mem_map.mpr ⟨(yX7_isTurn, 31), (List.mem_append_right _ (List.mem_append_right _ (List.mem_append_left _ (List.mem_of_getElem? (i := 15) rfl : (yX7_isTurn, 31) ∈ lw_privs_3)))), rfl⟩)) rfl⟩
theorem mw_X7_isWell : MWV yX7_isWell cX7_isWell 1 (some .boolean) 0 := ⟨⟨lwA_mem (tb_4 (List.mem_of_getElem? (i := 119) rfl)) rfl, ini_X7, by decide, by decide +kernel, by decide⟩, lwA_mem (tb_4 (List.mem_of_getElem? (i := 118) rfl)) rfl, lwA_mem (List.mem_append_left _ (List.mem_map.mpr ⟨(yX7_isWell, 31), (List.mem_append_right _ (List.mem_append_right _ (List.mem_append_left _ (List.mem_of_getElem? (i := 2) rfl : (yX7_isWell, 31) ∈ lw_privs_3)))), rfl⟩)) rfl⟩
theorem mw_X7_jams : MWV yX7_jams cX7_jams 4 (some .int) 2 := ⟨⟨lwA_mem (tb_4 (List.mem_of_getElem? (i := 202) rfl)) rfl, ini_X7, by decide, by decide +kernel, by decide⟩, lwA_mem (tb_4 (List.mem_of_getElem? (i := 200) rfl)) rfl, lwA_mem (tb_4 (List.mem_of_getElem? (i := 201) rfl)) rfl⟩
theorem mw_X7_keep : MWV yX7_keep cX7_keep 3 (some .int) 1 := ⟨⟨lwA_mem (tb_5 (List.mem_of_getElem? (i := 77) rfl)) rfl, ini_X7, by decide, by decide +kernel, by decide⟩, lwA_mem (tb_5 (List.mem_of_getElem? (i := 75) rfl)) rfl, lwA_mem (tb_5 (List.mem_of_getElem? (i := 76) rfl)) rfl⟩
theorem mw_X7_kthFrom : MWV yX7_kthFrom cX7_kthFrom 8 (some .int) 3 := ⟨⟨lwA_mem (tb_4 (List.mem_of_getElem? (i := 234) rfl)) rfl, ini_X7, by decide, by decide +kernel, by decide⟩, lwA_mem (tb_4 (List.mem_of_getElem? (i := 233) rfl)) rfl, lwA_mem (List.mem_append_left _ (List.mem_map.mpr ⟨(yX7_kthFrom, 31), (List.mem_append_right _ (List.mem_append_right _ (List.mem_append_right _ (List.mem_of_getElem? (i := 5) rfl : (yX7_kthFrom, 31) ∈ lw_privs_4)))), rfl⟩)) rfl⟩
theorem mw_X7_letterAt : MWV yX7_letterAt cX7_letterAt 2 (some .int) 1 := ⟨⟨lwA_mem (tb_4 (List.mem_of_getElem? (i := 112) rfl)) rfl, ini_X7, by decide, by decide +kernel, by decide⟩, lwA_mem (tb_4 (List.mem_of_getElem? (i := 111) rfl)) rfl, lwA_mem (List.mem_append_left _ (List.mem_map.mpr ⟨(yX7_letterAt, 31), (List.mem_append_right _ (List.mem_append_right _ (List.mem_append_left _ (List.mem_of_getElem? (i := 1) rfl : (yX7_letterAt, 31) ∈ lw_privs_3)))), rfl⟩)) rfl⟩
theorem mw_X7_mayBegin : MWV yX7_mayBegin cX7_mayBegin 2 (some .boolean) 1 := ⟨⟨lwA_mem (tb_4 (List.mem_of_getElem? (i := 123) rfl)) rfl, ini_X7, by decide, by decide +kernel, by decide⟩, lwA_mem (tb_4 (List.mem_of_getElem? (i := 122) rfl)) rfl, lwA_mem (List.mem_append_left _ (List.mem_map.mpr ⟨(yX7_mayBegin, 31), (List.mem_append_right _ (List.mem_append_right _ (List.mem_append_left _ (List.mem_of_getElem? (i := 3) rfl : (yX7_mayBegin, 31) ∈ lw_privs_3)))), rfl⟩)) rfl⟩
theorem mw_X7_measures : MWV yX7_measures cX7_measures 4 none 0 := ⟨⟨lwA_mem (tb_4 (List.mem_of_getElem? (i := 221) rfl)) rfl, ini_X7, by decide, by decide +kernel, by decide⟩, lwA_mem (tb_4 (List.mem_of_getElem? (i := 220) rfl)) rfl, lwA_mem (List.mem_append_left _ (List.mem_map.mpr ⟨(yX7_measures, 31), (List.mem_append_right _ (List.mem_append_right _ (List.mem_append_right _ (List.mem_of_getElem? (i := 2) rfl : (yX7_measures, 31) ∈ lw_privs_4)))), rfl⟩)) rfl⟩
theorem mw_X7_notes : MWV yX7_notes cX7_notes 2 none 0 := ⟨⟨lwA_mem (tb_4 (List.mem_of_getElem? (i := 194) rfl)) rfl, ini_X7, by decide, by decide +kernel, by decide⟩, lwA_mem (tb_4 (List.mem_of_getElem? (i := 193) rfl)) rfl, lwA_mem (List.mem_append_left _ (List.mem_map.mpr ⟨(yX7_notes, 31), (List.mem_append_right _ (List.mem_append_right _ (List.mem_append_right _ (List.mem_of_getElem? (i := 0) rfl : (yX7_notes, 31) ∈ lw_privs_4)))), rfl⟩)) rfl⟩
theorem mw_X7_now : MWV yX7_now cX7_now 2 (some .int) 1 := ⟨⟨lwA_mem (tb_4 (List.mem_of_getElem? (i := 174) rfl)) rfl, ini_X7, by decide, by decide +kernel, by decide⟩, lwA_mem (tb_4 (List.mem_of_getElem? (i := 172) rfl)) rfl, lwA_mem (tb_4 (List.mem_of_getElem? (i := 173) rfl)) rfl⟩
theorem mw_X7_number : MWV yX7_number cX7_number 3 (some .int) 2 := ⟨⟨lwA_mem (tb_4 (List.mem_of_getElem? (i := 138) rfl)) rfl, ini_X7, by decide, by decide +kernel, by decide⟩, lwA_mem (tb_4 (List.mem_of_getElem? (i := 137) rfl)) rfl, lwA_mem (List.mem_append_left _ (List.mem_map.mpr ⟨(yX7_number, 31), (List.mem_append_right _ (List.mem_append_right _ (List.mem_append_left _ (List.mem_of_getElem? (i := 6) rfl : (yX7_number, 31) ∈ lw_privs_3)))), rfl⟩)) rfl⟩
theorem mw_X7_odds : MWV yX7_odds cX7_odds 10 (some .long) 3 := ⟨⟨lwA_mem (tb_5 (List.mem_of_getElem? (i := 58) rfl)) rfl, ini_X7, by decide, by decide +kernel, by decide⟩, lwA_mem (tb_5 (List.mem_of_getElem? (i := 56) rfl)) rfl, lwA_mem (tb_5 (List.mem_of_getElem? (i := 57) rfl)) rfl⟩
theorem mw_X7_on : MWV yX7_on cX7_on 3 (some .int) 1 := ⟨⟨lwA_mem (tb_5 (List.mem_of_getElem? (i := 6) rfl)) rfl, ini_X7, by decide, by decide +kernel, by decide⟩, lwA_mem (tb_5 (List.mem_of_getElem? (i := 4) rfl)) rfl, lwA_mem (tb_5 (List.mem_of_getElem? (i := 5) rfl)) rfl⟩
theorem mw_X7_onBy : MWV yX7_onBy cX7_onBy 6 (some .int) 3 := ⟨⟨lwA_mem (tb_4 (List.mem_of_getElem? (i := 230) rfl)) rfl, ini_X7, by decide, by decide +kernel, by decide⟩, lwA_mem (tb_4 (List.mem_of_getElem? (i := 229) rfl)) rfl, lwA_mem (List.mem_append_left _ (List.mem_map.mpr ⟨(yX7_onBy, 31), (List.mem_append_right _ (List.mem_append_right _ (List.mem_append_right _ (List.mem_of_getElem? (i := 4) rfl : (yX7_onBy, 31) ∈ lw_privs_4)))), rfl⟩)) rfl⟩
theorem mw_X7_ones : MW yX7_ones cX7_ones 3 (some .int) 1 := ⟨lwA_mem (tb_4 (List.mem_of_getElem? (i := 209) rfl)) rfl, ini_X7, by decide, by decide +kernel, by decide⟩
theorem ms_X7_ones : Cond.static yX7_ones ∈ lwA := lwA_mem (tb_4 (List.mem_of_getElem? (i := 208) rfl)) rfl
theorem mw_X7_openNow : MWV yX7_openNow cX7_openNow 1 (some .int) 0 := ⟨⟨lwA_mem (tb_4 (List.mem_of_getElem? (i := 162) rfl)) rfl, ini_X7, by decide, by decide +kernel, by decide⟩, lwA_mem (tb_4 (List.mem_of_getElem? (i := 161) rfl)) rfl, lwA_mem (List.mem_append_left _ (List.mem_map.mpr ⟨(yX7_openNow, 31), (List.mem_append_right _ (List.mem_append_right _ (List.mem_append_left _ (List.mem_of_getElem? (i := 10) rfl : (yX7_openNow, 31) ∈ lw_privs_3)))), rfl⟩)) rfl⟩
theorem mw_X7_otherEnd : MWV yX7_otherEnd cX7_otherEnd 3 (some .int) 2 := ⟨⟨lwA_mem (tb_4 (List.mem_of_getElem? (i := 198) rfl)) rfl, ini_X7, by decide, by decide +kernel, by decide⟩, lwA_mem (tb_4 (List.mem_of_getElem? (i := 197) rfl)) rfl, lwA_mem (List.mem_append_left _ (List.mem_map.mpr ⟨(yX7_otherEnd, 31), (List.mem_append_right _ (List.mem_append_right _ (List.mem_append_right _ (List.mem_of_getElem? (i := 1) rfl : (yX7_otherEnd, 31) ∈ lw_privs_4)))), rfl⟩)) rfl⟩
theorem mw_X7_place : MWV yX7_place cX7_place 2 (some .int) 1 := ⟨⟨lwA_mem (tb_4 (List.mem_of_getElem? (i := 154) rfl)) rfl, ini_X7, by decide, by decide +kernel, by decide⟩, lwA_mem (tb_4 (List.mem_of_getElem? (i := 152) rfl)) rfl, lwA_mem (tb_4 (List.mem_of_getElem? (i := 153) rfl)) rfl⟩
theorem mw_X7_plans : MWV yX7_plans cX7_plans 2 (some .int) 1 := ⟨⟨lwA_mem (tb_5 (List.mem_of_getElem? (i := 14) rfl)) rfl, ini_X7, by decide, by decide +kernel, by decide⟩, lwA_mem (tb_5 (List.mem_of_getElem? (i := 12) rfl)) rfl, lwA_mem (tb_5 (List.mem_of_getElem? (i := 13) rfl)) rfl⟩
theorem mw_X7_rate : MWV yX7_rate cX7_rate 6 (some .int) 2 := ⟨⟨lwA_mem (tb_5 (List.mem_of_getElem? (i := 67) rfl)) rfl, ini_X7, by decide, by decide +kernel, by decide⟩, lwA_mem (tb_5 (List.mem_of_getElem? (i := 65) rfl)) rfl, lwA_mem (tb_5 (List.mem_of_getElem? (i := 66) rfl)) rfl⟩
theorem mw_X7_readsItem : MWV yX7_readsItem cX7_readsItem 6 none 1 := ⟨⟨lwA_mem (tb_4 (List.mem_of_getElem? (i := 134) rfl)) rfl, ini_X7, by decide, by decide +kernel, by decide⟩, lwA_mem (tb_4 (List.mem_of_getElem? (i := 133) rfl)) rfl, lwA_mem (List.mem_append_left _ (List.mem_map.mpr ⟨(yX7_readsItem, 31), (List.mem_append_right _ (List.mem_append_right _ (List.mem_append_left _ (List.mem_of_getElem? (i := 5) rfl : (yX7_readsItem, 31) ∈ lw_privs_3)))), rfl⟩)) rfl⟩
theorem mw_X7_road : MWV yX7_road cX7_road 3 (some .int) 2 := ⟨⟨lwA_mem (tb_4 (List.mem_of_getElem? (i := 146) rfl)) rfl, ini_X7, by decide, by decide +kernel, by decide⟩, lwA_mem (tb_4 (List.mem_of_getElem? (i := 144) rfl)) rfl, lwA_mem (tb_4 (List.mem_of_getElem? (i := 145) rfl)) rfl⟩
theorem mw_X7_roadsAt : MWV yX7_roadsAt cX7_roadsAt 5 (some .int) 2 := ⟨⟨lwA_mem (tb_4 (List.mem_of_getElem? (i := 166) rfl)) rfl, ini_X7, by decide, by decide +kernel, by decide⟩, lwA_mem (tb_4 (List.mem_of_getElem? (i := 165) rfl)) rfl, lwA_mem (List.mem_append_left _ (List.mem_map.mpr ⟨(yX7_roadsAt, 31), (List.mem_append_right _ (List.mem_append_right _ (List.mem_append_left _ (List.mem_of_getElem? (i := 11) rfl : (yX7_roadsAt, 31) ∈ lw_privs_3)))), rfl⟩)) rfl⟩
theorem mw_X7_round : MWV yX7_round cX7_round 2 (some .int) 0 := ⟨⟨lwA_mem (tb_5 (List.mem_of_getElem? (i := 2) rfl)) rfl, ini_X7, by decide, by decide +kernel, by decide⟩, lwA_mem (tb_5 (List.mem_of_getElem? (i := 0) rfl)) rfl, lwA_mem (tb_5 (List.mem_of_getElem? (i := 1) rfl)) rfl⟩
theorem mw_X7_saw : MWV yX7_saw cX7_saw 3 (some .int) 2 := ⟨⟨lwA_mem (tb_5 (List.mem_of_getElem? (i := 42) rfl)) rfl, ini_X7, by decide, by decide +kernel, by decide⟩, lwA_mem (tb_5 (List.mem_of_getElem? (i := 40) rfl)) rfl, lwA_mem (tb_5 (List.mem_of_getElem? (i := 41) rfl)) rfl⟩
theorem mw_X7_settles : MWV yX7_settles cX7_settles 2 none 0 := ⟨⟨lwA_mem (tb_3 (List.mem_of_getElem? (i := 235) rfl)) rfl, ini_X7, by decide, by decide +kernel, by decide⟩, lwA_mem (tb_3 (List.mem_of_getElem? (i := 234) rfl)) rfl, lwA_mem (List.mem_append_left _ (List.mem_map.mpr ⟨(yX7_settles, 31), (List.mem_append_right _ (List.mem_append_left _ (List.mem_of_getElem? (i := 15) rfl : (yX7_settles, 31) ∈ lw_privs_2))), rfl⟩)) rfl⟩
theorem mw_X7_shuts : MWV yX7_shuts cX7_shuts 3 (some .int) 2 := ⟨⟨lwA_mem (tb_4 (List.mem_of_getElem? (i := 206) rfl)) rfl, ini_X7, by decide, by decide +kernel, by decide⟩, lwA_mem (tb_4 (List.mem_of_getElem? (i := 204) rfl)) rfl, lwA_mem (tb_4 (List.mem_of_getElem? (i := 205) rfl)) rfl⟩
theorem mw_X7_stepped : MWV yX7_stepped cX7_stepped 4 (some .int) 1 := ⟨⟨lwA_mem (tb_5 (List.mem_of_getElem? (i := 38) rfl)) rfl, ini_X7, by decide, by decide +kernel, by decide⟩, lwA_mem (tb_5 (List.mem_of_getElem? (i := 37) rfl)) rfl, lwA_mem (List.mem_append_left _ (List.mem_map.mpr ⟨(yX7_stepped, 31), (List.mem_append_right _ (List.mem_append_right _ (List.mem_append_right _ (List.mem_of_getElem? (i := 8) rfl : (yX7_stepped, 31) ∈ lw_privs_4)))), rfl⟩)) rfl⟩
theorem mw_X7_takes : MWV yX7_takes cX7_takes 3 (some .int) 1 := ⟨⟨lwA_mem (tb_4 (List.mem_of_getElem? (i := 178) rfl)) rfl, ini_X7, by decide, by decide +kernel, by decide⟩, lwA_mem (tb_4 (List.mem_of_getElem? (i := 176) rfl)) rfl, lwA_mem (tb_4 (List.mem_of_getElem? (i := 177) rfl)) rfl⟩
theorem mw_X7_takesToken : MWV yX7_takesToken cX7_takesToken 3 (some .int) 1 := ⟨⟨lwA_mem (tb_4 (List.mem_of_getElem? (i := 130) rfl)) rfl, ini_X7, by decide, by decide +kernel, by decide⟩, lwA_mem (tb_4 (List.mem_of_getElem? (i := 129) rfl)) rfl, lwA_mem (List.mem_append_left _ (List.mem_map.mpr ⟨(yX7_takesToken, 31), (List.mem_append_right _ (List.mem_append_right _ (List.mem_append_left _ (List.mem_of_getElem? (i := 4) rfl : (yX7_takesToken, 31) ∈ lw_privs_3)))), rfl⟩)) rfl⟩
theorem mw_X7_town : MWV yX7_town cX7_town 3 (some .int) 0 := ⟨⟨lwA_mem (tb_4 (List.mem_of_getElem? (i := 104) rfl)) rfl, ini_X7, by decide, by decide +kernel, by decide⟩, lwA_mem (tb_4 (List.mem_of_getElem? (i := 102) rfl)) rfl, lwA_mem (tb_4 (List.mem_of_getElem? (i := 103) rfl)) rfl⟩
theorem mw_X7_trace : MWV yX7_trace cX7_trace 1 (some .long) 0 := ⟨⟨lwA_mem (tb_5 (List.mem_of_getElem? (i := 89) rfl)) rfl, ini_X7, by decide, by decide +kernel, by decide⟩, lwA_mem (tb_5 (List.mem_of_getElem? (i := 87) rfl)) rfl, lwA_mem (tb_5 (List.mem_of_getElem? (i := 88) rfl)) rfl⟩
theorem mw_X7_tunnel : MWV yX7_tunnel cX7_tunnel 2 (some .int) 1 := ⟨⟨lwA_mem (tb_5 (List.mem_of_getElem? (i := 30) rfl)) rfl, ini_X7, by decide, by decide +kernel, by decide⟩, lwA_mem (tb_5 (List.mem_of_getElem? (i := 28) rfl)) rfl, lwA_mem (tb_5 (List.mem_of_getElem? (i := 29) rfl)) rfl⟩
theorem mw_X7_type : MWV yX7_type cX7_type 2 (some .int) 1 := ⟨⟨lwA_mem (tb_4 (List.mem_of_getElem? (i := 93) rfl)) rfl, ini_X7, by decide, by decide +kernel, by decide⟩, lwA_mem (tb_4 (List.mem_of_getElem? (i := 91) rfl)) rfl, lwA_mem (tb_4 (List.mem_of_getElem? (i := 92) rfl)) rfl⟩
theorem mw_X7_undo : MWV yX7_undo cX7_undo 2 (some .int) 0 := ⟨⟨lwA_mem (tb_4 (List.mem_of_getElem? (i := 213) rfl)) rfl, ini_X7, by decide, by decide +kernel, by decide⟩, lwA_mem (tb_4 (List.mem_of_getElem? (i := 211) rfl)) rfl, lwA_mem (tb_4 (List.mem_of_getElem? (i := 212) rfl)) rfl⟩
theorem mw_X7_unlike : MWV yX7_unlike cX7_unlike 3 (some .int) 2 := ⟨⟨lwA_mem (tb_4 (List.mem_of_getElem? (i := 142) rfl)) rfl, ini_X7, by decide, by decide +kernel, by decide⟩, lwA_mem (tb_4 (List.mem_of_getElem? (i := 141) rfl)) rfl, lwA_mem (List.mem_append_left _ (List.mem_map.mpr ⟨(yX7_unlike, 31), (List.mem_append_right _ (List.mem_append_right _ (List.mem_append_left _ (List.mem_of_getElem? (i := 7) rfl : (yX7_unlike, 31) ∈ lw_privs_3)))), rfl⟩)) rfl⟩
theorem mw_X7_way : MWV yX7_way cX7_way 4 (some .int) 1 := ⟨⟨lwA_mem (tb_4 (List.mem_of_getElem? (i := 217) rfl)) rfl, ini_X7, by decide, by decide +kernel, by decide⟩, lwA_mem (tb_4 (List.mem_of_getElem? (i := 215) rfl)) rfl, lwA_mem (tb_4 (List.mem_of_getElem? (i := 216) rfl)) rfl⟩
theorem mw_X7_where : MWV yX7_where cX7_where 2 (some .int) 1 := ⟨⟨lwA_mem (tb_5 (List.mem_of_getElem? (i := 50) rfl)) rfl, ini_X7, by decide, by decide +kernel, by decide⟩, lwA_mem (tb_5 (List.mem_of_getElem? (i := 48) rfl)) rfl, lwA_mem (tb_5 (List.mem_of_getElem? (i := 49) rfl)) rfl⟩
theorem mw_X7_whereBehind : MWV yX7_whereBehind cX7_whereBehind 6 (some .int) 2 := ⟨⟨lwA_mem (tb_5 (List.mem_of_getElem? (i := 34) rfl)) rfl, ini_X7, by decide, by decide +kernel, by decide⟩, lwA_mem (tb_5 (List.mem_of_getElem? (i := 33) rfl)) rfl, lwA_mem (List.mem_append_left _ (List.mem_map.mpr ⟨(yX7_whereBehind, 31), (List.mem_append_right _ (List.mem_append_right _ (List.mem_append_right _ (List.mem_of_getElem? (i := 7) rfl : (yX7_whereBehind, 31) ∈ lw_privs_4)))), rfl⟩)) rfl⟩
theorem mw_X7_which : MWV yX7_which cX7_which 5 (some .int) 2 := ⟨⟨lwA_mem (tb_5 (List.mem_of_getElem? (i := 54) rfl)) rfl, ini_X7, by decide, by decide +kernel, by decide⟩, lwA_mem (tb_5 (List.mem_of_getElem? (i := 52) rfl)) rfl, lwA_mem (tb_5 (List.mem_of_getElem? (i := 53) rfl)) rfl⟩
theorem mw_X7_worst : MWV yX7_worst cX7_worst 7 (some .int) 1 := ⟨⟨lwA_mem (tb_5 (List.mem_of_getElem? (i := 10) rfl)) rfl, ini_X7, by decide, by decide +kernel, by decide⟩, lwA_mem (tb_5 (List.mem_of_getElem? (i := 8) rfl)) rfl, lwA_mem (tb_5 (List.mem_of_getElem? (i := 9) rfl)) rfl⟩
theorem mw_J6_bitCount_0f7a4 : MW yJ6_bitCount_0f7a4 cJ6_bitCount_0f7a4 1 (some .int) 1 := ⟨lwA_mem (tb_3 (List.mem_of_getElem? (i := 7) rfl)) rfl, ini_J6, by decide, by decide +kernel, by decide⟩
theorem ms_J6_bitCount_0f7a4 : Cond.static yJ6_bitCount_0f7a4 ∈ lwA := lwA_mem (tb_3 (List.mem_of_getElem? (i := 6) rfl)) rfl
theorem mw_J9_min_7cf53 : MW yJ9_min_7cf53 cJ9_min_7cf53 2 (some .int) 2 := ⟨lwA_mem (tb_2 (List.mem_of_getElem? (i := 231) rfl)) rfl, ini_J9, by decide, by decide +kernel, by decide⟩
theorem ms_J9_min_7cf53 : Cond.static yJ9_min_7cf53 ∈ lwA := lwA_mem (tb_2 (List.mem_of_getElem? (i := 230) rfl)) rfl
theorem ml_X6_18 : Cond.methodLink RX6 18 yX4_init ∈ lwA := lwA_mem (tb_1 (List.mem_of_getElem? (i := 57) rfl)) rfl
theorem ml_X6_35 : Cond.methodLink RX6 35 yX1_init ∈ lwA := lwA_mem (tb_1 (List.mem_of_getElem? (i := 154) rfl)) rfl
theorem ml_X6_76 : Cond.methodLink RX6 76 yX2_startAt ∈ lwA := lwA_mem (tb_1 (List.mem_of_getElem? (i := 231) rfl)) rfl
theorem ml_X6_80 : Cond.methodLink RX6 80 yX6_isWithin ∈ lwA := lwA_mem (tb_2 (List.mem_of_getElem? (i := 45) rfl)) rfl
theorem ml_X6_84 : Cond.methodLink RX6 84 yX3_add ∈ lwA := lwA_mem (tb_2 (List.mem_of_getElem? (i := 48) rfl)) rfl
theorem ml_X6_88 : Cond.methodLink RX6 88 yX3_size ∈ lwA := lwA_mem (tb_2 (List.mem_of_getElem? (i := 52) rfl)) rfl
theorem ml_X6_92 : Cond.methodLink RX6 92 yX3_empty ∈ lwA := lwA_mem (tb_2 (List.mem_of_getElem? (i := 60) rfl)) rfl
theorem ml_X6_95 : Cond.methodLink RX6 95 yX3_read ∈ lwA := lwA_mem (tb_2 (List.mem_of_getElem? (i := 68) rfl)) rfl
theorem ml_X6_99 : Cond.methodLink RX6 99 yX6_beginAnew ∈ lwA := lwA_mem (tb_2 (List.mem_of_getElem? (i := 136) rfl)) rfl
theorem ml_X6_102 : Cond.methodLink RX6 102 yX4_hasRoad ∈ lwA := lwA_mem (tb_2 (List.mem_of_getElem? (i := 148) rfl)) rfl
theorem ml_X6_111 : Cond.methodLink RX6 111 yX6_longOf ∈ lwA := lwA_mem (tb_2 (List.mem_of_getElem? (i := 152) rfl)) rfl
theorem ml_X6_118 : Cond.methodLink RX6 118 yX2_isShut ∈ lwA := lwA_mem (tb_2 (List.mem_of_getElem? (i := 156) rfl)) rfl
theorem ml_X6_124 : Cond.methodLink RX6 124 yX4_hasPlace ∈ lwA := lwA_mem (tb_2 (List.mem_of_getElem? (i := 167) rfl)) rfl
theorem ml_X6_127 : Cond.methodLink RX6 127 yX4_roadsAt ∈ lwA := lwA_mem (tb_2 (List.mem_of_getElem? (i := 171) rfl)) rfl
theorem ml_X6_130 : Cond.methodLink RX6 130 yX6_openRoads ∈ lwA := lwA_mem (tb_2 (List.mem_of_getElem? (i := 179) rfl)) rfl
theorem ml_X6_148 : Cond.methodLink RX6 148 yX1_size ∈ lwA := lwA_mem (tb_2 (List.mem_of_getElem? (i := 191) rfl)) rfl
theorem ml_X6_149 : Cond.methodLink RX6 149 yX6_canTake ∈ lwA := lwA_mem (tb_2 (List.mem_of_getElem? (i := 199) rfl)) rfl
theorem ml_X6_153 : Cond.methodLink RX6 153 yX6_minutesOfTaking ∈ lwA := lwA_mem (tb_2 (List.mem_of_getElem? (i := 204) rfl)) rfl
theorem ml_X6_157 : Cond.methodLink RX6 157 yX1_remember ∈ lwA := lwA_mem (tb_2 (List.mem_of_getElem? (i := 218) rfl)) rfl
theorem ml_X6_161 : Cond.methodLink RX6 161 yX4_isTurn ∈ lwA := lwA_mem (tb_2 (List.mem_of_getElem? (i := 232) rfl)) rfl
theorem ml_X6_164 : Cond.methodLink RX6 164 yX4_otherEnd ∈ lwA := lwA_mem (tb_2 (List.mem_of_getElem? (i := 233) rfl)) rfl
theorem ml_X6_167 : Cond.methodLink RX6 167 yJ6_bitCount_0f7a4 ∈ lwA := lwA_mem (tb_3 (List.mem_of_getElem? (i := 5) rfl)) rfl
theorem ml_X6_172 : Cond.methodLink RX6 172 yX1_restore ∈ lwA := lwA_mem (tb_3 (List.mem_of_getElem? (i := 15) rfl)) rfl
theorem ml_X6_176 : Cond.methodLink RX6 176 yX5_look ∈ lwA := lwA_mem (tb_3 (List.mem_of_getElem? (i := 23) rfl)) rfl
theorem ml_X6_180 : Cond.methodLink RX6 180 yX5_follow ∈ lwA := lwA_mem (tb_3 (List.mem_of_getElem? (i := 48) rfl)) rfl
theorem ml_X6_195 : Cond.methodLink RX6 195 yX5_firstRoad ∈ lwA := lwA_mem (tb_3 (List.mem_of_getElem? (i := 71) rfl)) rfl
theorem ml_X6_198 : Cond.methodLink RX6 198 yX5_minutesBy ∈ lwA := lwA_mem (tb_3 (List.mem_of_getElem? (i := 76) rfl)) rfl
theorem ml_X6_202 : Cond.methodLink RX6 202 yX5_minutesFrom ∈ lwA := lwA_mem (tb_3 (List.mem_of_getElem? (i := 81) rfl)) rfl
theorem ml_X6_208 : Cond.methodLink RX6 208 yX6_has ∈ lwA := lwA_mem (tb_3 (List.mem_of_getElem? (i := 82) rfl)) rfl
theorem ml_X6_211 : Cond.methodLink RX6 211 yX5_lookAtOpen ∈ lwA := lwA_mem (tb_3 (List.mem_of_getElem? (i := 83) rfl)) rfl
theorem ml_X6_217 : Cond.methodLink RX6 217 yX6_minutesOneByOne ∈ lwA := lwA_mem (tb_3 (List.mem_of_getElem? (i := 103) rfl)) rfl
theorem ml_X6_220 : Cond.methodLink RX6 220 yX6_minutesAlike ∈ lwA := lwA_mem (tb_3 (List.mem_of_getElem? (i := 111) rfl)) rfl
theorem ml_X6_223 : Cond.methodLink RX6 223 yX6_oneRoadOn ∈ lwA := lwA_mem (tb_3 (List.mem_of_getElem? (i := 123) rfl)) rfl
theorem ml_X6_229 : Cond.methodLink RX6 229 yX6_asSeen ∈ lwA := lwA_mem (tb_3 (List.mem_of_getElem? (i := 139) rfl)) rfl
theorem ml_X6_232 : Cond.methodLink RX6 232 yX5_minutesWithLonger ∈ lwA := lwA_mem (tb_3 (List.mem_of_getElem? (i := 147) rfl)) rfl
theorem ml_X6_237 : Cond.methodLink RX6 237 yX0_drive ∈ lwA := lwA_mem (tb_3 (List.mem_of_getElem? (i := 156) rfl)) rfl
theorem ml_X6_241 : Cond.methodLink RX6 241 yX0_upper ∈ lwA := lwA_mem (tb_3 (List.mem_of_getElem? (i := 180) rfl)) rfl
theorem ml_X6_245 : Cond.methodLink RX6 245 yX0_lower ∈ lwA := lwA_mem (tb_3 (List.mem_of_getElem? (i := 188) rfl)) rfl
theorem ml_X6_249 : Cond.methodLink RX6 249 yX6_ratedAs ∈ lwA := lwA_mem (tb_3 (List.mem_of_getElem? (i := 197) rfl)) rfl
theorem ml_X6_252 : Cond.methodLink RX6 252 yX2_become ∈ lwA := lwA_mem (tb_3 (List.mem_of_getElem? (i := 209) rfl)) rfl
theorem ml_X6_255 : Cond.methodLink RX6 255 yX1_lose ∈ lwA := lwA_mem (tb_2 (List.mem_of_getElem? (i := 140) rfl)) rfl
theorem ml_X6_273 : Cond.methodLink RX6 273 yX4_allRoads ∈ lwA := lwA_mem (tb_2 (List.mem_of_getElem? (i := 183) rfl)) rfl
theorem ml_X6_276 : Cond.methodLink RX6 276 yX4_meets ∈ lwA := lwA_mem (tb_2 (List.mem_of_getElem? (i := 203) rfl)) rfl
theorem ml_X6_279 : Cond.methodLink RX6 279 yX4_nervesFor ∈ lwA := lwA_mem (tb_2 (List.mem_of_getElem? (i := 208) rfl)) rfl
theorem ml_X6_282 : Cond.methodLink RX6 282 yX5_lookBehindRow ∈ lwA := lwA_mem (tb_3 (List.mem_of_getElem? (i := 107) rfl)) rfl
theorem ml_X6_285 : Cond.methodLink RX6 285 yX5_meetingsInRow ∈ lwA := lwA_mem (tb_3 (List.mem_of_getElem? (i := 115) rfl)) rfl
theorem ml_X0_32 : Cond.methodLink RX0 32 yX4_roadsAt ∈ lwA := lwA_mem (tb_3 (List.mem_of_getElem? (i := 160) rfl)) rfl
theorem ml_X0_35 : Cond.methodLink RX0 35 yX0_commonUnit ∈ lwA := lwA_mem (tb_3 (List.mem_of_getElem? (i := 161) rfl)) rfl
theorem ml_X0_39 : Cond.methodLink RX0 39 yX0_takeAnyRoad ∈ lwA := lwA_mem (tb_3 (List.mem_of_getElem? (i := 169) rfl)) rfl
theorem ml_X0_43 : Cond.methodLink RX0 43 yJ6_bitCount_0f7a4 ∈ lwA := lwA_mem (tb_3 (List.mem_of_getElem? (i := 165) rfl)) rfl
theorem ml_X0_48 : Cond.methodLink RX0 48 yX0_commonDivisor ∈ lwA := lwA_mem (tb_3 (List.mem_of_getElem? (i := 166) rfl)) rfl
theorem ml_X0_52 : Cond.methodLink RX0 52 yX0_spread ∈ lwA := lwA_mem (tb_3 (List.mem_of_getElem? (i := 173) rfl)) rfl
theorem ml_X0_56 : Cond.methodLink RX0 56 arraycopyName ∈ lwA := lwA_mem (tb_3 (List.mem_of_getElem? (i := 179) rfl)) rfl
theorem ml_X0_69 : Cond.methodLink RX0 69 yX4_otherEnd ∈ lwA := lwA_mem (tb_3 (List.mem_of_getElem? (i := 178) rfl)) rfl
theorem ml_X0_73 : Cond.methodLink RX0 73 yX0_inLeastTerms ∈ lwA := lwA_mem (tb_3 (List.mem_of_getElem? (i := 184) rfl)) rfl
theorem ml_X1_25 : Cond.methodLink RX1 25 yX2_become ∈ lwA := lwA_mem (tb_2 (List.mem_of_getElem? (i := 222) rfl)) rfl
theorem ml_X1_29 : Cond.methodLink RX1 29 yJ9_min_7cf53 ∈ lwA := lwA_mem (tb_2 (List.mem_of_getElem? (i := 229) rfl)) rfl
theorem ml_X2_31 : Cond.methodLink RX2 31 arraycopyName ∈ lwA := lwA_mem (tb_2 (List.mem_of_getElem? (i := 226) rfl)) rfl
theorem ml_X3_19 : Cond.methodLink RX3 19 yX4_beAsAtFirst ∈ lwA := lwA_mem (tb_2 (List.mem_of_getElem? (i := 72) rfl)) rfl
theorem ml_X3_37 : Cond.methodLink RX3 37 yX3_readToken ∈ lwA := lwA_mem (tb_2 (List.mem_of_getElem? (i := 73) rfl)) rfl
theorem ml_X3_43 : Cond.methodLink RX3 43 yX3_readItem ∈ lwA := lwA_mem (tb_2 (List.mem_of_getElem? (i := 88) rfl)) rfl
theorem ml_X3_50 : Cond.methodLink RX3 50 yX3_canBegin ∈ lwA := lwA_mem (tb_2 (List.mem_of_getElem? (i := 92) rfl)) rfl
theorem ml_X3_54 : Cond.methodLink RX3 54 yX3_readNumbers ∈ lwA := lwA_mem (tb_2 (List.mem_of_getElem? (i := 96) rfl)) rfl
theorem ml_X3_61 : Cond.methodLink RX3 61 yX3_readPlaces ∈ lwA := lwA_mem (tb_2 (List.mem_of_getElem? (i := 100) rfl)) rfl
theorem ml_X3_65 : Cond.methodLink RX3 65 yX3_readRoad ∈ lwA := lwA_mem (tb_2 (List.mem_of_getElem? (i := 108) rfl)) rfl
theorem ml_X3_68 : Cond.methodLink RX3 68 yX3_readStraight ∈ lwA := lwA_mem (tb_2 (List.mem_of_getElem? (i := 116) rfl)) rfl
theorem ml_X3_71 : Cond.methodLink RX3 71 yX3_readGoal ∈ lwA := lwA_mem (tb_2 (List.mem_of_getElem? (i := 124) rfl)) rfl
theorem ml_X3_74 : Cond.methodLink RX3 74 yX3_readNerves ∈ lwA := lwA_mem (tb_2 (List.mem_of_getElem? (i := 128) rfl)) rfl
theorem ml_X3_77 : Cond.methodLink RX3 77 yX3_readLoad ∈ lwA := lwA_mem (tb_2 (List.mem_of_getElem? (i := 132) rfl)) rfl
theorem ml_X3_80 : Cond.methodLink RX3 80 yX3_readNumber ∈ lwA := lwA_mem (tb_2 (List.mem_of_getElem? (i := 104) rfl)) rfl
theorem ml_X3_87 : Cond.methodLink RX3 87 yX4_addRoad ∈ lwA := lwA_mem (tb_2 (List.mem_of_getElem? (i := 112) rfl)) rfl
theorem ml_X3_91 : Cond.methodLink RX3 91 yX4_makeStraight ∈ lwA := lwA_mem (tb_2 (List.mem_of_getElem? (i := 120) rfl)) rfl
theorem ml_X3_114 : Cond.methodLink RX3 114 yX3_isDigit ∈ lwA := lwA_mem (tb_2 (List.mem_of_getElem? (i := 77) rfl)) rfl
theorem ml_X3_118 : Cond.methodLink RX3 118 yX3_readDigits ∈ lwA := lwA_mem (tb_2 (List.mem_of_getElem? (i := 81) rfl)) rfl
theorem ml_X3_121 : Cond.methodLink RX3 121 yX3_isTokenLetter ∈ lwA := lwA_mem (tb_2 (List.mem_of_getElem? (i := 85) rfl)) rfl
theorem ml_X4_24 : Cond.methodLink RX4 24 yX4_beAsAtFirst ∈ lwA := lwA_mem (tb_1 (List.mem_of_getElem? (i := 61) rfl)) rfl
theorem ml_X4_46 : Cond.methodLink RX4 46 yX4_meets ∈ lwA := lwA_mem (tb_2 (List.mem_of_getElem? (i := 175) rfl)) rfl
theorem ml_X4_50 : Cond.methodLink RX4 50 yX4_hasRoad ∈ lwA := lwA_mem (tb_2 (List.mem_of_getElem? (i := 216) rfl)) rfl
theorem ml_X4_57 : Cond.methodLink RX4 57 yX4_isTurn ∈ lwA := lwA_mem (tb_2 (List.mem_of_getElem? (i := 212) rfl)) rfl
theorem ml_X5_11 : Cond.methodLink RX5 11 yX4_init ∈ lwA := lwA_mem (tb_1 (List.mem_of_getElem? (i := 178) rfl)) rfl
theorem ml_X5_35 : Cond.methodLink RX5 35 yX4_allRoads ∈ lwA := lwA_mem (tb_3 (List.mem_of_getElem? (i := 27) rfl)) rfl
theorem ml_X5_57 : Cond.methodLink RX5 57 yX5_measure ∈ lwA := lwA_mem (tb_3 (List.mem_of_getElem? (i := 28) rfl)) rfl
theorem ml_X5_63 : Cond.methodLink RX5 63 yX5_placeOf ∈ lwA := lwA_mem (tb_3 (List.mem_of_getElem? (i := 32) rfl)) rfl
theorem ml_X5_71 : Cond.methodLink RX5 71 yX5_nearestUnsettled ∈ lwA := lwA_mem (tb_3 (List.mem_of_getElem? (i := 37) rfl)) rfl
theorem ml_X5_74 : Cond.methodLink RX5 74 yX5_measureBefore ∈ lwA := lwA_mem (tb_3 (List.mem_of_getElem? (i := 41) rfl)) rfl
theorem ml_X5_82 : Cond.methodLink RX5 82 yX4_nervesFor ∈ lwA := lwA_mem (tb_3 (List.mem_of_getElem? (i := 46) rfl)) rfl
theorem ml_X5_86 : Cond.methodLink RX5 86 yJ9_min_7cf53 ∈ lwA := lwA_mem (tb_3 (List.mem_of_getElem? (i := 47) rfl)) rfl
theorem ml_X5_97 : Cond.methodLink RX5 97 yX4_meets ∈ lwA := lwA_mem (tb_3 (List.mem_of_getElem? (i := 56) rfl)) rfl
theorem ml_X5_100 : Cond.methodLink RX5 100 yX5_minutesBy ∈ lwA := lwA_mem (tb_3 (List.mem_of_getElem? (i := 57) rfl)) rfl
theorem ml_X5_104 : Cond.methodLink RX5 104 yX5_firstRoad ∈ lwA := lwA_mem (tb_3 (List.mem_of_getElem? (i := 52) rfl)) rfl
theorem ml_X5_107 : Cond.methodLink RX5 107 yX5_minutesFrom ∈ lwA := lwA_mem (tb_3 (List.mem_of_getElem? (i := 63) rfl)) rfl
theorem ml_X5_113 : Cond.methodLink RX5 113 yX4_isTurn ∈ lwA := lwA_mem (tb_3 (List.mem_of_getElem? (i := 61) rfl)) rfl
theorem ml_X5_116 : Cond.methodLink RX5 116 yX4_otherEnd ∈ lwA := lwA_mem (tb_3 (List.mem_of_getElem? (i := 62) rfl)) rfl
theorem ml_L_9 : Cond.methodLink RL 9 yX6_init ∈ lwA := lwA_mem (tb_1 (List.mem_of_getElem? (i := 14) rfl)) rfl
theorem ml_L_12 : Cond.methodLink RL 12 yX7_init ∈ lwA := lwA_mem (tb_3 (List.mem_of_getElem? (i := 224) rfl)) rfl
theorem ml_L_13 : Cond.methodLink RL 13 yX6_type ∈ lwA := lwA_mem (tb_2 (List.mem_of_getElem? (i := 41) rfl)) rfl
theorem ml_L_17 : Cond.methodLink RL 17 yX7_type ∈ lwA := lwA_mem (tb_4 (List.mem_of_getElem? (i := 90) rfl)) rfl
theorem ml_L_18 : Cond.methodLink RL 18 yX6_clear ∈ lwA := lwA_mem (tb_2 (List.mem_of_getElem? (i := 56) rfl)) rfl
theorem ml_L_22 : Cond.methodLink RL 22 yX7_clear ∈ lwA := lwA_mem (tb_4 (List.mem_of_getElem? (i := 97) rfl)) rfl
theorem ml_L_23 : Cond.methodLink RL 23 yX6_town ∈ lwA := lwA_mem (tb_2 (List.mem_of_getElem? (i := 64) rfl)) rfl
theorem ml_L_26 : Cond.methodLink RL 26 yX7_town ∈ lwA := lwA_mem (tb_4 (List.mem_of_getElem? (i := 101) rfl)) rfl
theorem ml_L_27 : Cond.methodLink RL 27 yX6_road ∈ lwA := lwA_mem (tb_2 (List.mem_of_getElem? (i := 144) rfl)) rfl
theorem ml_L_31 : Cond.methodLink RL 31 yX7_road ∈ lwA := lwA_mem (tb_4 (List.mem_of_getElem? (i := 143) rfl)) rfl
theorem ml_L_32 : Cond.methodLink RL 32 yX6_place ∈ lwA := lwA_mem (tb_2 (List.mem_of_getElem? (i := 163) rfl)) rfl
theorem ml_L_35 : Cond.methodLink RL 35 yX7_place ∈ lwA := lwA_mem (tb_4 (List.mem_of_getElem? (i := 151) rfl)) rfl
theorem ml_L_36 : Cond.methodLink RL 36 yX6_now ∈ lwA := lwA_mem (tb_2 (List.mem_of_getElem? (i := 187) rfl)) rfl
theorem ml_L_39 : Cond.methodLink RL 39 yX7_now ∈ lwA := lwA_mem (tb_4 (List.mem_of_getElem? (i := 171) rfl)) rfl
theorem ml_L_40 : Cond.methodLink RL 40 yX6_takes ∈ lwA := lwA_mem (tb_2 (List.mem_of_getElem? (i := 195) rfl)) rfl
theorem ml_L_43 : Cond.methodLink RL 43 yX7_takes ∈ lwA := lwA_mem (tb_4 (List.mem_of_getElem? (i := 175) rfl)) rfl
theorem ml_L_44 : Cond.methodLink RL 44 yX6_jams ∈ lwA := lwA_mem (tb_2 (List.mem_of_getElem? (i := 237) rfl)) rfl
theorem ml_L_47 : Cond.methodLink RL 47 yX7_jams ∈ lwA := lwA_mem (tb_4 (List.mem_of_getElem? (i := 199) rfl)) rfl
theorem ml_L_48 : Cond.methodLink RL 48 yX6_shuts ∈ lwA := lwA_mem (tb_3 (List.mem_of_getElem? (i := 1) rfl)) rfl
theorem ml_L_51 : Cond.methodLink RL 51 yX7_shuts ∈ lwA := lwA_mem (tb_4 (List.mem_of_getElem? (i := 203) rfl)) rfl
theorem ml_L_52 : Cond.methodLink RL 52 yX6_undo ∈ lwA := lwA_mem (tb_3 (List.mem_of_getElem? (i := 11) rfl)) rfl
theorem ml_L_55 : Cond.methodLink RL 55 yX7_undo ∈ lwA := lwA_mem (tb_4 (List.mem_of_getElem? (i := 210) rfl)) rfl
theorem ml_L_56 : Cond.methodLink RL 56 yX6_way ∈ lwA := lwA_mem (tb_3 (List.mem_of_getElem? (i := 19) rfl)) rfl
theorem ml_L_59 : Cond.methodLink RL 59 yX7_way ∈ lwA := lwA_mem (tb_4 (List.mem_of_getElem? (i := 214) rfl)) rfl
theorem ml_L_60 : Cond.methodLink RL 60 yX6_round ∈ lwA := lwA_mem (tb_3 (List.mem_of_getElem? (i := 67) rfl)) rfl
theorem ml_L_63 : Cond.methodLink RL 63 yX7_round ∈ lwA := lwA_mem (tb_4 (List.mem_of_getElem? (i := 239) rfl)) rfl
theorem ml_L_64 : Cond.methodLink RL 64 yX6_on ∈ lwA := lwA_mem (tb_3 (List.mem_of_getElem? (i := 72) rfl)) rfl
theorem ml_L_67 : Cond.methodLink RL 67 yX7_on ∈ lwA := lwA_mem (tb_5 (List.mem_of_getElem? (i := 3) rfl)) rfl
theorem ml_L_68 : Cond.methodLink RL 68 yX6_worst ∈ lwA := lwA_mem (tb_3 (List.mem_of_getElem? (i := 77) rfl)) rfl
theorem ml_L_71 : Cond.methodLink RL 71 yX7_worst ∈ lwA := lwA_mem (tb_5 (List.mem_of_getElem? (i := 7) rfl)) rfl
theorem ml_L_72 : Cond.methodLink RL 72 yX6_plans ∈ lwA := lwA_mem (tb_3 (List.mem_of_getElem? (i := 87) rfl)) rfl
theorem ml_L_75 : Cond.methodLink RL 75 yX7_plans ∈ lwA := lwA_mem (tb_5 (List.mem_of_getElem? (i := 11) rfl)) rfl
theorem ml_L_76 : Cond.methodLink RL 76 yX6_drops ∈ lwA := lwA_mem (tb_3 (List.mem_of_getElem? (i := 91) rfl)) rfl
theorem ml_L_79 : Cond.methodLink RL 79 yX7_drops ∈ lwA := lwA_mem (tb_5 (List.mem_of_getElem? (i := 15) rfl)) rfl
theorem ml_L_80 : Cond.methodLink RL 80 yX6_his ∈ lwA := lwA_mem (tb_3 (List.mem_of_getElem? (i := 95) rfl)) rfl
theorem ml_L_83 : Cond.methodLink RL 83 yX7_his ∈ lwA := lwA_mem (tb_5 (List.mem_of_getElem? (i := 19) rfl)) rfl
theorem ml_L_84 : Cond.methodLink RL 84 yX6_cars ∈ lwA := lwA_mem (tb_3 (List.mem_of_getElem? (i := 99) rfl)) rfl
theorem ml_L_87 : Cond.methodLink RL 87 yX7_cars ∈ lwA := lwA_mem (tb_5 (List.mem_of_getElem? (i := 23) rfl)) rfl
theorem ml_L_88 : Cond.methodLink RL 88 yX6_tunnel ∈ lwA := lwA_mem (tb_3 (List.mem_of_getElem? (i := 119) rfl)) rfl
theorem ml_L_91 : Cond.methodLink RL 91 yX7_tunnel ∈ lwA := lwA_mem (tb_5 (List.mem_of_getElem? (i := 27) rfl)) rfl
theorem ml_L_92 : Cond.methodLink RL 92 yX6_saw ∈ lwA := lwA_mem (tb_3 (List.mem_of_getElem? (i := 127) rfl)) rfl
theorem ml_L_95 : Cond.methodLink RL 95 yX7_saw ∈ lwA := lwA_mem (tb_5 (List.mem_of_getElem? (i := 39) rfl)) rfl
theorem ml_L_96 : Cond.methodLink RL 96 yX6_forget ∈ lwA := lwA_mem (tb_3 (List.mem_of_getElem? (i := 131) rfl)) rfl
theorem ml_L_99 : Cond.methodLink RL 99 yX7_forget ∈ lwA := lwA_mem (tb_5 (List.mem_of_getElem? (i := 43) rfl)) rfl
theorem ml_L_100 : Cond.methodLink RL 100 yX6_where ∈ lwA := lwA_mem (tb_3 (List.mem_of_getElem? (i := 135) rfl)) rfl
theorem ml_L_103 : Cond.methodLink RL 103 yX7_where ∈ lwA := lwA_mem (tb_5 (List.mem_of_getElem? (i := 47) rfl)) rfl
theorem ml_L_104 : Cond.methodLink RL 104 yX6_which ∈ lwA := lwA_mem (tb_3 (List.mem_of_getElem? (i := 143) rfl)) rfl
theorem ml_L_107 : Cond.methodLink RL 107 yX7_which ∈ lwA := lwA_mem (tb_5 (List.mem_of_getElem? (i := 51) rfl)) rfl
theorem ml_L_108 : Cond.methodLink RL 108 yX6_odds ∈ lwA := lwA_mem (tb_3 (List.mem_of_getElem? (i := 151) rfl)) rfl
theorem ml_L_112 : Cond.methodLink RL 112 yX7_odds ∈ lwA := lwA_mem (tb_5 (List.mem_of_getElem? (i := 55) rfl)) rfl
theorem ml_L_113 : Cond.methodLink RL 113 yX6_rate ∈ lwA := lwA_mem (tb_3 (List.mem_of_getElem? (i := 192) rfl)) rfl
theorem ml_L_116 : Cond.methodLink RL 116 yX7_rate ∈ lwA := lwA_mem (tb_5 (List.mem_of_getElem? (i := 64) rfl)) rfl
theorem ml_L_117 : Cond.methodLink RL 117 yX6_keep ∈ lwA := lwA_mem (tb_3 (List.mem_of_getElem? (i := 205) rfl)) rfl
theorem ml_L_120 : Cond.methodLink RL 120 yX7_keep ∈ lwA := lwA_mem (tb_5 (List.mem_of_getElem? (i := 74) rfl)) rfl
theorem ml_L_121 : Cond.methodLink RL 121 yX6_back ∈ lwA := lwA_mem (tb_3 (List.mem_of_getElem? (i := 210) rfl)) rfl
theorem ml_L_124 : Cond.methodLink RL 124 yX7_back ∈ lwA := lwA_mem (tb_5 (List.mem_of_getElem? (i := 78) rfl)) rfl
theorem ml_L_125 : Cond.methodLink RL 125 yX6_count ∈ lwA := lwA_mem (tb_3 (List.mem_of_getElem? (i := 214) rfl)) rfl
theorem ml_L_128 : Cond.methodLink RL 128 yX7_count ∈ lwA := lwA_mem (tb_5 (List.mem_of_getElem? (i := 82) rfl)) rfl
theorem ml_L_129 : Cond.methodLink RL 129 yX6_trace ∈ lwA := lwA_mem (tb_3 (List.mem_of_getElem? (i := 218) rfl)) rfl
theorem ml_L_133 : Cond.methodLink RL 133 yX7_trace ∈ lwA := lwA_mem (tb_5 (List.mem_of_getElem? (i := 86) rfl)) rfl
theorem ml_X7_63 : Cond.methodLink RX7 63 yX7_begins ∈ lwA := lwA_mem (tb_3 (List.mem_of_getElem? (i := 228) rfl)) rfl
theorem ml_X7_66 : Cond.methodLink RX7 66 yX7_settles ∈ lwA := lwA_mem (tb_3 (List.mem_of_getElem? (i := 232) rfl)) rfl
theorem ml_X7_73 : Cond.methodLink RX7 73 yX7_in ∈ lwA := lwA_mem (tb_4 (List.mem_of_getElem? (i := 94) rfl)) rfl
theorem ml_X7_83 : Cond.methodLink RX7 83 yX7_letterAt ∈ lwA := lwA_mem (tb_4 (List.mem_of_getElem? (i := 109) rfl)) rfl
theorem ml_X7_96 : Cond.methodLink RX7 96 yX7_isLetter ∈ lwA := lwA_mem (tb_4 (List.mem_of_getElem? (i := 113) rfl)) rfl
theorem ml_X7_103 : Cond.methodLink RX7 103 yX7_isWell ∈ lwA := lwA_mem (tb_4 (List.mem_of_getElem? (i := 116) rfl)) rfl
theorem ml_X7_107 : Cond.methodLink RX7 107 yX7_advances ∈ lwA := lwA_mem (tb_4 (List.mem_of_getElem? (i := 105) rfl)) rfl
theorem ml_X7_110 : Cond.methodLink RX7 110 yX7_takesToken ∈ lwA := lwA_mem (tb_4 (List.mem_of_getElem? (i := 127) rfl)) rfl
theorem ml_X7_117 : Cond.methodLink RX7 117 yX7_bitOf ∈ lwA := lwA_mem (tb_4 (List.mem_of_getElem? (i := 124) rfl)) rfl
theorem ml_X7_120 : Cond.methodLink RX7 120 yX7_number ∈ lwA := lwA_mem (tb_4 (List.mem_of_getElem? (i := 135) rfl)) rfl
theorem ml_X7_124 : Cond.methodLink RX7 124 yX7_unlike ∈ lwA := lwA_mem (tb_4 (List.mem_of_getElem? (i := 139) rfl)) rfl
theorem ml_X7_127 : Cond.methodLink RX7 127 yX7_mayBegin ∈ lwA := lwA_mem (tb_4 (List.mem_of_getElem? (i := 120) rfl)) rfl
theorem ml_X7_130 : Cond.methodLink RX7 130 yX7_readsItem ∈ lwA := lwA_mem (tb_4 (List.mem_of_getElem? (i := 131) rfl)) rfl
theorem ml_X7_143 : Cond.methodLink RX7 143 yX7_isRoad ∈ lwA := lwA_mem (tb_4 (List.mem_of_getElem? (i := 147) rfl)) rfl
theorem ml_X7_146 : Cond.methodLink RX7 146 yX7_isAt ∈ lwA := lwA_mem (tb_4 (List.mem_of_getElem? (i := 167) rfl)) rfl
theorem ml_X7_150 : Cond.methodLink RX7 150 yX7_isPlace ∈ lwA := lwA_mem (tb_4 (List.mem_of_getElem? (i := 155) rfl)) rfl
theorem ml_X7_153 : Cond.methodLink RX7 153 yX7_openNow ∈ lwA := lwA_mem (tb_4 (List.mem_of_getElem? (i := 159) rfl)) rfl
theorem ml_X7_157 : Cond.methodLink RX7 157 yX7_roadsAt ∈ lwA := lwA_mem (tb_4 (List.mem_of_getElem? (i := 163) rfl)) rfl
theorem ml_X7_160 : Cond.methodLink RX7 160 yX7_isTurn ∈ lwA := lwA_mem (tb_4 (List.mem_of_getElem? (i := 187) rfl)) rfl
theorem ml_X7_166 : Cond.methodLink RX7 166 yX7_asNow ∈ lwA := lwA_mem (tb_4 (List.mem_of_getElem? (i := 179) rfl)) rfl
theorem ml_X7_169 : Cond.methodLink RX7 169 yX7_cost ∈ lwA := lwA_mem (tb_4 (List.mem_of_getElem? (i := 183) rfl)) rfl
theorem ml_X7_172 : Cond.methodLink RX7 172 yX7_notes ∈ lwA := lwA_mem (tb_4 (List.mem_of_getElem? (i := 191) rfl)) rfl
theorem ml_X7_175 : Cond.methodLink RX7 175 yX7_otherEnd ∈ lwA := lwA_mem (tb_4 (List.mem_of_getElem? (i := 195) rfl)) rfl
theorem ml_X7_178 : Cond.methodLink RX7 178 yX7_ones ∈ lwA := lwA_mem (tb_4 (List.mem_of_getElem? (i := 207) rfl)) rfl
theorem ml_X7_182 : Cond.methodLink RX7 182 yX7_onBy ∈ lwA := lwA_mem (tb_4 (List.mem_of_getElem? (i := 227) rfl)) rfl
theorem ml_X7_186 : Cond.methodLink RX7 186 yX7_farFrom ∈ lwA := lwA_mem (tb_4 (List.mem_of_getElem? (i := 223) rfl)) rfl
theorem ml_X7_192 : Cond.methodLink RX7 192 yX7_firstFrom ∈ lwA := lwA_mem (tb_4 (List.mem_of_getElem? (i := 235) rfl)) rfl
theorem ml_X7_195 : Cond.methodLink RX7 195 yX7_measures ∈ lwA := lwA_mem (tb_4 (List.mem_of_getElem? (i := 218) rfl)) rfl
theorem ml_X7_198 : Cond.methodLink RX7 198 yX7_kthFrom ∈ lwA := lwA_mem (tb_4 (List.mem_of_getElem? (i := 231) rfl)) rfl
theorem ml_X7_201 : Cond.methodLink RX7 201 yX7_stepped ∈ lwA := lwA_mem (tb_5 (List.mem_of_getElem? (i := 35) rfl)) rfl
theorem ml_X7_204 : Cond.methodLink RX7 204 yX7_whereBehind ∈ lwA := lwA_mem (tb_5 (List.mem_of_getElem? (i := 31) rfl)) rfl
theorem ml_X7_212 : Cond.methodLink RX7 212 yX7_gcd ∈ lwA := lwA_mem (tb_5 (List.mem_of_getElem? (i := 61) rfl)) rfl
theorem mn_X6_9 : (RX6, 9, yX3_init, "TurnVoice") ∈ zNest := by decide +kernel
theorem mn_X6_28 : (RX6, 28, yX2_init, "TurnVoice") ∈ zNest := by decide +kernel
theorem mn_X6_42 : (RX6, 42, yX5_init, "TurnVoice") ∈ zNest := by decide +kernel
theorem mn_X6_49 : (RX6, 49, yX0_init, "TurnVoice") ∈ zNest := by decide +kernel
theorem mn_X0_65 : (RX0, 65, yX6_has, "TurnVoice") ∈ zNest := by decide +kernel
theorem mn_X1_17 : (RX1, 17, yX2_init, "TurnVoice") ∈ zNest := by decide +kernel
theorem mn_X2_37 : (RX2, 37, yX6_has, "TurnVoice") ∈ zNest := by decide +kernel
theorem mn_X3_110 : (RX3, 110, yX6_isWithin, "TurnVoice") ∈ zNest := by decide +kernel
theorem mn_X4_54 : (RX4, 54, yX6_has, "TurnVoice") ∈ zNest := by decide +kernel
theorem mn_X5_78 : (RX5, 78, yX6_has, "TurnVoice") ∈ zNest := by decide +kernel
theorem kc_X6_235 : Cond.constantLong RX6 235 (-1) ∈ lwA := lwA_mem (tb_3 (List.mem_of_getElem? (i := 155) rfl)) rfl
theorem kc_X6_248 : Cond.constant RX6 248 (-1000000) ∈ lwA := lwA_mem (tb_3 (List.mem_of_getElem? (i := 196) rfl)) rfl
theorem kc_X5_70 : Cond.constant RX5 70 (1000000) ∈ lwA := lwA_mem (tb_3 (List.mem_of_getElem? (i := 36) rfl)) rfl
theorem kc_X7_181 : Cond.constant RX7 181 (1000000) ∈ lwA := lwA_mem (tb_4 (List.mem_of_getElem? (i := 222) rfl)) rfl
theorem kc_X7_208 : Cond.constantLong RX7 208 (-1) ∈ lwA := lwA_mem (tb_5 (List.mem_of_getElem? (i := 59) rfl)) rfl
theorem kc_X7_210 : Cond.constantLong RX7 210 (27720) ∈ lwA := lwA_mem (tb_5 (List.mem_of_getElem? (i := 60) rfl)) rfl
theorem kc_X7_216 : Cond.constant RX7 216 (-1000000) ∈ lwA := lwA_mem (tb_5 (List.mem_of_getElem? (i := 68) rfl)) rfl
theorem kc_X7_221 : Cond.constantLong RX7 221 (11) ∈ lwA := lwA_mem (tb_5 (List.mem_of_getElem? (i := 69) rfl)) rfl
theorem kc_X7_223 : Cond.constantLong RX7 223 (101) ∈ lwA := lwA_mem (tb_5 (List.mem_of_getElem? (i := 70) rfl)) rfl
theorem kc_X7_225 : Cond.constantLong RX7 225 (1011) ∈ lwA := lwA_mem (tb_5 (List.mem_of_getElem? (i := 71) rfl)) rfl
theorem kc_X7_227 : Cond.constantLong RX7 227 (10101) ∈ lwA := lwA_mem (tb_5 (List.mem_of_getElem? (i := 72) rfl)) rfl
theorem kc_X7_229 : Cond.constantLong RX7 229 (100001) ∈ lwA := lwA_mem (tb_5 (List.mem_of_getElem? (i := 73) rfl)) rfl
theorem kc_J6_265 : Cond.constant RJ6 265 (1431655765) ∈ lwA := lwA_mem (tb_3 (List.mem_of_getElem? (i := 8) rfl)) rfl
theorem kc_J6_266 : Cond.constant RJ6 266 (858993459) ∈ lwA := lwA_mem (tb_3 (List.mem_of_getElem? (i := 9) rfl)) rfl
theorem kc_J6_267 : Cond.constant RJ6 267 (252645135) ∈ lwA := lwA_mem (tb_3 (List.mem_of_getElem? (i := 10) rfl)) rfl
theorem cl_X6_7 : Cond.classLink RX6 7 RX3 ∈ lwA := lwA_mem (tb_1 (List.mem_of_getElem? (i := 20) rfl)) rfl
theorem cl_X6_16 : Cond.classLink RX6 16 RX4 ∈ lwA := lwA_mem (tb_1 (List.mem_of_getElem? (i := 55) rfl)) rfl
theorem cl_X6_26 : Cond.classLink RX6 26 RX2 ∈ lwA := lwA_mem (tb_1 (List.mem_of_getElem? (i := 119) rfl)) rfl
theorem cl_X6_33 : Cond.classLink RX6 33 RX1 ∈ lwA := lwA_mem (tb_1 (List.mem_of_getElem? (i := 152) rfl)) rfl
theorem cl_X6_40 : Cond.classLink RX6 40 RX5 ∈ lwA := lwA_mem (tb_1 (List.mem_of_getElem? (i := 171) rfl)) rfl
theorem cl_X6_47 : Cond.classLink RX6 47 RX0 ∈ lwA := lwA_mem (tb_1 (List.mem_of_getElem? (i := 211) rfl)) rfl
theorem cl_X1_9 : Cond.classLink RX1 9 RX2 ∈ lwA := lwA_mem (tb_1 (List.mem_of_getElem? (i := 158) rfl)) rfl
theorem cl_X5_9 : Cond.classLink RX5 9 RX4 ∈ lwA := lwA_mem (tb_1 (List.mem_of_getElem? (i := 177) rfl)) rfl
theorem cl_L_7 : Cond.classLink RL 7 RX6 ∈ lwA := lwA_mem (tb_1 (List.mem_of_getElem? (i := 12) rfl)) rfl
theorem cl_L_10 : Cond.classLink RL 10 RX7 ∈ lwA := lwA_mem (tb_3 (List.mem_of_getElem? (i := 222) rfl)) rfl
theorem is_X6 : Cond.instantiable RX6 15 ∈ lwA := lwA_mem (tb_1 (List.mem_of_getElem? (i := 13) rfl)) rfl
theorem is_X3 : Cond.instantiable RX3 9 ∈ lwA := lwA_mem (tb_1 (List.mem_of_getElem? (i := 21) rfl)) rfl
theorem is_X4 : Cond.instantiable RX4 10 ∈ lwA := lwA_mem (tb_1 (List.mem_of_getElem? (i := 56) rfl)) rfl
theorem is_X2 : Cond.instantiable RX2 6 ∈ lwA := lwA_mem (tb_1 (List.mem_of_getElem? (i := 120) rfl)) rfl
theorem is_X1 : Cond.instantiable RX1 3 ∈ lwA := lwA_mem (tb_1 (List.mem_of_getElem? (i := 153) rfl)) rfl
theorem is_X5 : Cond.instantiable RX5 9 ∈ lwA := lwA_mem (tb_1 (List.mem_of_getElem? (i := 172) rfl)) rfl
theorem is_X0 : Cond.instantiable RX0 4 ∈ lwA := lwA_mem (tb_1 (List.mem_of_getElem? (i := 212) rfl)) rfl
theorem is_X7 : Cond.instantiable RX7 31 ∈ lwA := lwA_mem (tb_3 (List.mem_of_getElem? (i := 223) rfl)) rfl
theorem ac_words : Cond.native arraycopyName ∈ lwA ∧ Cond.static arraycopyName ∈ lwA ∧ Cond.initialized "java/lang/System" ∈ lwA := ⟨lwA_mem (tb_2 (List.mem_of_getElem? (i := 228) rfl)) rfl, lwA_mem (tb_2 (List.mem_of_getElem? (i := 227) rfl)) rfl, lwA_mem (tb_1 (List.mem_of_getElem? (i := 9) rfl)) rfl⟩
theorem ac_int : Cond.arrayClass .int ∈ lwA := lwA_mem (tb_1 (List.mem_of_getElem? (i := 54) rfl)) rfl
theorem ac_boolean : Cond.arrayClass .boolean ∈ lwA := lwA_mem (tb_1 (List.mem_of_getElem? (i := 210) rfl)) rfl
theorem ac_long : Cond.arrayClass .long ∈ lwA := lwA_mem (tb_1 (List.mem_of_getElem? (i := 230) rfl)) rfl
end
section
def wTown (g : GC) (a : Nat) (h : Nat → Nat) (T : NS) : va_W := [(a, .inr (4, [.int (nI (T.1 0)), .int (nI (T.1 1)), .int (nI (T.1 2)), .int (nI (T.1 3)), .int (nI (T.1 4)), .int (nI (T.1 5)), .ref (h 6), .ref (h 7), .ref (h 8), .ref (h 9)])), (h 6, .inl (g.2.2 0, 12, .inl (fun k => nI (T.2 6 k)))), (h 7, .inl (g.2.2 0, 12, .inl (fun k => nI (T.2 7 k)))), (h 8, .inl (g.2.2 0, 12, .inl (fun k => nI (T.2 8 k)))), (h 9, .inl (g.2.2 0, 12, .inl (fun k => nI (T.2 9 k))))]
def wPres (g : GC) (a : Nat) (h : Nat → Nat) (T : NS) : va_W := [(a, .inr (2, [.int (nI (T.1 0)), .int (cm (T.1 1)), .int (nI (T.1 2)), .int (nI (T.1 3)), .int (nI (T.1 4)), .ref (h 5)])), (h 5, .inl (g.2.2 0, 12, .inl (fun k => nI (T.2 5 k))))]
def wRead (g : GC) (a : Nat) (h : Nat → Nat) (T : NS) : va_W := [(a, .inr (3, [.ref (h 0), .int (nI (T.1 1)), .int (nI (T.1 2)), .int (tk (T.1 3)), .int (nI (T.1 4)), .int (nI (T.1 5)), .int (nI (T.1 6)), .int (nI (T.1 7)), .int (nI (T.1 8))])), (h 0, .inl (g.2.2 0, 200, .inl (fun k => nI (T.2 0 k))))]
def wVoice (g : GC) (a : Nat) (h : Nat → Nat) (t0 : Nat) (T : NS) : va_W := [(a, .inr (5, [.ref t0, .int (nI (T.1 1)), .ref (h 2), .ref (h 3), .ref (h 4), .ref (h 5), .ref (h 6), .int (nI (T.1 7)), .int (nI (T.1 8))])), (h 2, .inl (g.2.2 0, 12, .inl (fun k => nI (T.2 2 k)))), (h 3, .inl (g.2.2 0, 24, .inl (fun k => nI (T.2 3 k)))), (h 4, .inl (g.2.2 2, 24, .inl (fun k => nI (T.2 4 k)))), (h 5, .inl (g.2.2 0, 12, .inl (fun k => nI (T.2 5 k)))), (h 6, .inl (g.2.2 0, 24, .inl (fun k => nI (T.2 6 k))))]
def wOdds (g : GC) (a : Nat) (h : Nat → Nat) (T : NS) : va_W := [(a, .inr (0, [.long (lN (T.1 0)), .ref (h 1), .ref (h 2), .ref (h 3)])), (h 1, .inl (g.2.2 1, 8, .inr (.inl (fun k => lN (T.2 1 k))))), (h 2, .inl (g.2.2 1, 8, .inr (.inl (fun k => lN (T.2 2 k))))), (h 3, .inl (g.2.2 0, 8, .inl (fun k => nI (T.2 3 k))))]
def wMod (g : GC) (a : Nat) (h : Nat → Nat) (T : NS) : va_W := [(a, .inr (7, [.int (nI (T.1 0)), .long (lN (T.1 1)), .ref (h 2), .int (nI (T.1 3)), .int (nI (T.1 4)), .int (nI (T.1 5)), .int (nI (T.1 6)), .int (nI (T.1 7)), .int (pm (T.1 8)), .ref (h 9), .int (nI (T.1 10)), .ref (h 11), .ref (h 12), .ref (h 13), .ref (h 14), .ref (h 15), .ref (h 16), .ref (h 17), .int (nI (T.1 18)), .ref (h 19), .int (nI (T.1 20)), .ref (h 21), .ref (h 22), .int (nI (T.1 23)), .ref (h 24), .int (nI (T.1 25)), .ref (h 26), .int (nI (T.1 27)), .ref (h 28), .ref (h 29), .ref (h 30)])), (h 2, .inl (g.2.2 0, 200, .inl (fun k => nI (T.2 2 k)))), (h 9, .inl (g.2.2 0, 12, .inl (fun k => nI (T.2 9 k)))), (h 11, .inl (g.2.2 0, 48, .inl (fun k => nI (T.2 11 k)))), (h 12, .inl (g.2.2 0, 24, .inl (fun k => nI (T.2 12 k)))), (h 13, .inl (g.2.2 0, 24, .inl (fun k => nI (T.2 13 k)))), (h 14, .inl (g.2.2 0, 17, .inl (fun k => nI (T.2 14 k)))), (h 15, .inl (g.2.2 0, 34, .inl (fun k => nI (T.2 15 k)))), (h 16, .inl (g.2.2 2, 2, .inl (fun k => nI (T.2 16 k)))), (h 17, .inl (g.2.2 0, 170, .inl (fun k => nI (T.2 17 k)))), (h 19, .inl (g.2.2 0, 8, .inl (fun k => nI (T.2 19 k)))), (h 21, .inl (g.2.2 0, 5, .inl (fun k => nI (T.2 21 k)))), (h 22, .inl (g.2.2 0, 5, .inl (fun k => nI (T.2 22 k)))), (h 24, .inl (g.2.2 0, 12, .inl (fun k => nI (T.2 24 k)))), (h 26, .inl (g.2.2 0, 24, .inl (fun k => nI (T.2 26 k)))), (h 28, .inl (g.2.2 0, 12, .inl (fun k => nI (T.2 28 k)))), (h 29, .inl (g.2.2 1, 8, .inr (.inl (fun k => lN (T.2 29 k))))), (h 30, .inl (g.2.2 1, 8, .inr (.inl (fun k => lN (T.2 30 k)))))]
def wPast (g : GC) (a : Nat) (h : Nat → Nat) (b : Nat → Nat) (j : Nat → Nat → Nat) (U : Nat → NS) (T : NS) : va_W := [(a, .inr (1, [.ref (h 0), .int (nI (T.1 1)), .int (nI (T.1 2))])), (h 0, .inl (g.2.2 3, 10, .inr (.inr (.inr (.inr (fun i => some (b i)))))))] ++ (wPres g (b 0) (j 0) (U 0) ++ (wPres g (b 1) (j 1) (U 1) ++ (wPres g (b 2) (j 2) (U 2) ++ (wPres g (b 3) (j 3) (U 3) ++ (wPres g (b 4) (j 4) (U 4) ++ (wPres g (b 5) (j 5) (U 5) ++ (wPres g (b 6) (j 6) (U 6) ++ (wPres g (b 7) (j 7) (U 7) ++ (wPres g (b 8) (j 8) (U 8) ++ (wPres g (b 9) (j 9) (U 9)))))))))))
end
section
section ZX
variable {g : GC} {X : XC} {cc : ByteArray} {nL k n pc : Nat} {own : String} {ws : va_W} {lv lv' : List (Nat × Value)} {st : List Value}
theorem z_ldcw (E : Ob g X cc nL own) {ix : Nat} {v : Int32} (hd : decode cc pc = .ok (.ldc_w ix, 3)) (hw : Cond.constant own ix v ∈ lwA) (K : Z g X nL k n ws lv (.int v :: st) (pc + 3)) : Z g X nL k n ws lv st pc :=
  fun H locs ls hP hD hS hl => lv_ldcw E.1 E.2.1 E.2.2.2.1 (E.2.2.2.2.1 _ hw) hd (K H locs ls hP hD hS hl)
theorem z_iushr (E : Ob g X cc nL own) {x y v : Int32} (hd : decode cc pc = .ok (.iushr, 1)) (hv : (x.toUInt32 >>> (y.toUInt32 &&& Int32.toUInt32 31)).toInt32 = v) (K : Z g X nL k n ws lv (.int v :: st) (pc + 1)) : Z g X nL k n ws lv (.int y :: .int x :: st) pc :=
  fun H locs ls hP hD hS hl => lv_iushr E.1 E.2.1 hd hv (K H locs ls hP hD hS hl)
theorem mm_words : Cond.static Lib.Math.min.name ∈ lwA ∧ Cond.initialized "java/lang/Math" ∈ lwA ∧ Cond.code Lib.Math.min.name Lib.Math.min.code 2 (some .int) ∈ lwA := ⟨ms_J9_min_7cf53, ini_J9, mw_J9_min_7cf53.1⟩
theorem z_minN (E : Ob g X cc nL own) {D0 K0 N0 : Nat} (hX : X.2.2.1 = zR D0 K0 N0) {ix : Nat} (hd : decode cc pc = .ok (.invokestatic ix, 3)) (hl : Cond.methodLink own ix yJ9_min_7cf53 ∈ lwA) (hD0 : 1 ≤ D0) (h8 : (st.map fun v => v.category).sum ≤ 8) (hk : k ≤ K0 ∧ n ≤ N0) {a b : Nat} (ha : a < 2 ^ 31) (hb : b < 2 ^ 31) (K : Z g X nL k n ws lv (.int (nI (min a b)) :: st) (pc + 3)) : Z g X nL k n ws lv (.int (nI b) :: .int (nI a) :: st) pc :=
  fun H locs ls hP hD hS hlv => va_mmin E.1 E.2.1 (E.2.2.1.trans hlv.1.symm) E.2.2.2.1 (E.2.2.2.2.1 _ hl) (E.2.2.2.2.1 _ mm_words.1) (E.2.2.2.2.1 _ mm_words.2.1) (E.2.2.2.2.1 _ mm_words.2.2) (by rw [hX]; exact hD0) (by rw [hX]; show _ + 13 ≤ 40 * D0; omega) (by rw [hX]; exact hk.1) (by rw [hX]; exact hk.2) hd (by
    have e : (if nI b < nI a then nI b else nI a) = nI (min a b) := by
      by_cases q : b < a
      · rw [if_pos ((nI_ltI hb ha).mpr q), show min a b = b by omega]
      · rw [if_neg (fun z => q ((nI_ltI hb ha).mp z)), show min a b = a by omega]
    rw [e]
    exact K H locs ls hP hD hS hlv)
end ZX
/-- how many of the first twelve bits are set -/
def pc12 (x : Nat) : Nat := ((List.range 12).map (fun k => x >>> k &&& 1)).sum
def bcU (x y : Int32) : Int32 := (x.toUInt32 >>> (y.toUInt32 &&& Int32.toUInt32 31)).toInt32
def bcF (x : Int32) : Int32 :=
  let a := x - (bcU x (nI 1) &&& nI 1431655765)
  let b := (a &&& nI 858993459) + (bcU a (nI 2) &&& nI 858993459)
  let c := (b + bcU b (nI 4)) &&& nI 252645135
  let d := c + bcU c (nI 8)
  let e := d + bcU d (nI 16)
  e &&& nI 63
theorem bc_2 : ∀ a, a < 64 → ∀ b, b < 64 → bcF (nI (64 * a + b)) = nI (pc12 (64 * a + b)) := by decide +kernel
theorem bc_all (x : Nat) (h : x < 4096) : bcF (nI x) = nI (pc12 x) := by
  have := bc_2 (x / 64) (by omega) (x % 64) (by omega)
  rwa [Nat.div_add_mod] at this
end
section
def wi (x lo hi : Int32) : Bool := !decide (x < lo) && !decide (hi < x)
def hasR (T : NS) (r : Int32) : Bool := !decide (r < 0) && !decide (nI (T.1 1) ≤ r)
def hasP (T : NS) (r : Int32) : Bool := !decide (r < 0) && !decide (nI (T.1 0) ≤ r)
def meetsT (T : NS) (r p : Nat) : Bool := decide (T.2 6 r = p) || decide (T.2 7 r = p)
def otherT (T : NS) (r p : Nat) : Nat := if T.2 6 r = p then T.2 7 r else T.2 6 r
theorem tb_shr (b r : Nat) : ((b >>> r) &&& 1 ≠ 0) ↔ b.testBit r = true := by
  unfold Nat.testBit
  rw [Nat.and_comm]
  simp
theorem tb_and1 (b r : Nat) : (b >>> r) &&& 1 < 2 ^ 31 := by
  have : (b >>> r) &&& 1 ≤ 1 := Nat.and_le_right
  omega

set_option maxHeartbeats 4000000 in
set_option maxRecDepth 100000 in
theorem c_X6_isWithin (g : GC) (x : Int32) (lo : Int32) (hi : Int32) : Ct g yX6_isWithin cX6_isWithin 3 (some .boolean) 0 0 0 [.int x, .int lo, .int hi] (([] : va_W)) (DI (bI (wi x lo hi)) (([] : va_W))) := by
  refine Ct.of (by decide) (Nat.le_of_ble_eq_true rfl) ?_
  intro X E Er hX _ hnm
  have E : Ob g X cX6_isWithin 3 RX6 := E
  refine z_lve (lv' := [(0, .int x), (1, .int lo), (2, .int hi)]) rfl ?_
  refine z_iload_n E dX6_isWithin_0 0 rfl rfl ?_
  refine z_iload_n E dX6_isWithin_1 1 rfl rfl ?_
  refine z_icmp_lt E dX6_isWithin_2 14 (by decide) (fun c1 => ?_) (fun c1 => ?_)
  · refine z_iconst (v := (nI 0)) E dX6_isWithin_14 (by decide) ?_
    refine z_zret E Er dX6_isWithin_15 (by decide) ?_
    exact ⟨bz0 (by simp [wi, c1]), rfl⟩
  · refine z_iload_n E dX6_isWithin_5 0 rfl rfl ?_
    refine z_iload_n E dX6_isWithin_6 2 rfl rfl ?_
    refine z_icmp_gt E dX6_isWithin_7 14 (by decide) (fun c2 => ?_) (fun c2 => ?_)
    · refine z_iconst (v := (nI 0)) E dX6_isWithin_14 (by decide) ?_
      refine z_zret E Er dX6_isWithin_15 (by decide) ?_
      exact ⟨bz0 (by simp [wi, c1, c2]), rfl⟩
    · refine z_iconst (v := (nI 1)) E dX6_isWithin_10 (by decide) ?_
      refine z_goto E dX6_isWithin_11 15 (by decide) ?_
      refine z_zret E Er dX6_isWithin_15 (by decide) ?_
      exact ⟨bz1 (by simp [wi, c1, c2]), rfl⟩

set_option maxHeartbeats 4000000 in
set_option maxRecDepth 100000 in
theorem c_X6_has (g : GC) (b : Nat) (r : Nat) (hb : b < 2 ^ 31) (hr : r < 32) : Ct g yX6_has cX6_has 2 (some .boolean) 0 0 0 [.int (nI b), .int (nI r)] (([] : va_W)) (DI (bI (b.testBit r)) (([] : va_W))) := by
  refine Ct.of (by decide) (Nat.le_of_ble_eq_true rfl) ?_
  intro X E Er hX _ hnm
  have E : Ob g X cX6_has 2 RX6 := E
  refine z_lve (lv' := [(0, .int (nI b)), (1, .int (nI r))]) rfl ?_
  refine z_iload_n E dX6_has_0 0 rfl rfl ?_
  refine z_iload_n E dX6_has_1 1 rfl rfl ?_
  refine z_ishrN E dX6_has_2 (by omega) (by omega) ?_
  refine z_iconst (v := (nI 1)) E dX6_has_3 (by decide) ?_
  refine z_iandN E dX6_has_4 ?_
  refine z_ifN_eq E dX6_has_5 12 (by decide) (tb_and1 b r) (fun c1 => ?_) (fun c1 => ?_)
  · refine z_iconst (v := (nI 0)) E dX6_has_12 (by decide) ?_
    refine z_zret E Er dX6_has_13 (by decide) ?_
    exact ⟨bz0 (Bool.eq_false_iff.mpr (fun e => (tb_shr b r).mpr e c1)), rfl⟩
  · refine z_iconst (v := (nI 1)) E dX6_has_8 (by decide) ?_
    refine z_goto E dX6_has_9 13 (by decide) ?_
    refine z_zret E Er dX6_has_13 (by decide) ?_
    exact ⟨bz1 ((tb_shr b r).mp c1), rfl⟩

set_option maxHeartbeats 4000000 in
set_option maxRecDepth 100000 in
theorem c_X4_hasRoad (g : GC) (a : Nat) (h : Nat → Nat) (T : NS) (r : Int32) : Ct g yX4_hasRoad cX4_hasRoad 2 (some .boolean) 0 0 0 [.ref a, .int r] (wTown g a h T) (DI (bI (hasR T r)) (wTown g a h T)) := by
  refine Ct.of (by decide) (Nat.le_of_ble_eq_true rfl) ?_
  intro X E Er hX _ hnm
  have E : Ob g X cX4_hasRoad 2 RX4 := E
  refine z_lve (lv' := [(0, .ref a), (1, .int r)]) rfl ?_
  refine z_iload_n E dX4_hasRoad_0 1 rfl rfl ?_
  refine z_if_lt E dX4_hasRoad_1 16 (by decide) (fun c1 => ?_) (fun c1 => ?_)
  · refine z_iconst (v := (nI 0)) E dX4_hasRoad_16 (by decide) ?_
    refine z_zret E Er dX4_hasRoad_17 (by decide) ?_
    exact ⟨bz0 (by simp [hasR, c1]), rfl⟩
  · refine z_iload_n E dX4_hasRoad_4 1 rfl rfl ?_
    refine z_aload_n E dX4_hasRoad_5 0 rfl rfl ?_
    refine gt_X4_31 (v := .int (nI (T.1 1))) E dX4_hasRoad_6 0 rfl rfl ?_
    refine z_icmp_ge E dX4_hasRoad_9 16 (by decide) (fun c2 => ?_) (fun c2 => ?_)
    · refine z_iconst (v := (nI 0)) E dX4_hasRoad_16 (by decide) ?_
      refine z_zret E Er dX4_hasRoad_17 (by decide) ?_
      exact ⟨bz0 (by simp [hasR, c1, c2]), rfl⟩
    · refine z_iconst (v := (nI 1)) E dX4_hasRoad_12 (by decide) ?_
      refine z_goto E dX4_hasRoad_13 17 (by decide) ?_
      refine z_zret E Er dX4_hasRoad_17 (by decide) ?_
      exact ⟨bz1 (by simp [hasR, c1, c2]), rfl⟩

set_option maxHeartbeats 4000000 in
set_option maxRecDepth 100000 in
theorem c_X4_hasPlace (g : GC) (a : Nat) (h : Nat → Nat) (T : NS) (r : Int32) : Ct g yX4_hasPlace cX4_hasPlace 2 (some .boolean) 0 0 0 [.ref a, .int r] (wTown g a h T) (DI (bI (hasP T r)) (wTown g a h T)) := by
  refine Ct.of (by decide) (Nat.le_of_ble_eq_true rfl) ?_
  intro X E Er hX _ hnm
  have E : Ob g X cX4_hasPlace 2 RX4 := E
  refine z_lve (lv' := [(0, .ref a), (1, .int r)]) rfl ?_
  refine z_iload_n E dX4_hasPlace_0 1 rfl rfl ?_
  refine z_if_lt E dX4_hasPlace_1 16 (by decide) (fun c1 => ?_) (fun c1 => ?_)
  · refine z_iconst (v := (nI 0)) E dX4_hasPlace_16 (by decide) ?_
    refine z_zret E Er dX4_hasPlace_17 (by decide) ?_
    exact ⟨bz0 (by simp [hasP, c1]), rfl⟩
  · refine z_iload_n E dX4_hasPlace_4 1 rfl rfl ?_
    refine z_aload_n E dX4_hasPlace_5 0 rfl rfl ?_
    refine gt_X4_27 (v := .int (nI (T.1 0))) E dX4_hasPlace_6 0 rfl rfl ?_
    refine z_icmp_ge E dX4_hasPlace_9 16 (by decide) (fun c2 => ?_) (fun c2 => ?_)
    · refine z_iconst (v := (nI 0)) E dX4_hasPlace_16 (by decide) ?_
      refine z_zret E Er dX4_hasPlace_17 (by decide) ?_
      exact ⟨bz0 (by simp [hasP, c1, c2]), rfl⟩
    · refine z_iconst (v := (nI 1)) E dX4_hasPlace_12 (by decide) ?_
      refine z_goto E dX4_hasPlace_13 17 (by decide) ?_
      refine z_zret E Er dX4_hasPlace_17 (by decide) ?_
      exact ⟨bz1 (by simp [hasP, c1, c2]), rfl⟩

set_option maxHeartbeats 4000000 in
set_option maxRecDepth 100000 in
theorem c_X4_meets (g : GC) (a : Nat) (h : Nat → Nat) (T : NS) (r : Nat) (p : Nat) (hsT : sm T) (hr : r < 12) (hp : p < 2 ^ 31) : Ct g yX4_meets cX4_meets 3 (some .boolean) 0 0 0 [.ref a, .int (nI r), .int (nI p)] (wTown g a h T) (DI (bI (meetsT T r p)) (wTown g a h T)) := by
  refine Ct.of (by decide) (Nat.le_of_ble_eq_true rfl) ?_
  intro X E Er hX _ hnm
  have E : Ob g X cX4_meets 3 RX4 := E
  refine z_lve (lv' := [(0, .ref a), (1, .int (nI r)), (2, .int (nI p))]) rfl ?_
  refine z_aload_n E dX4_meets_0 0 rfl rfl ?_
  refine gt_X4_9 (v := .ref (h 6)) E dX4_meets_1 0 rfl rfl ?_
  refine z_iload_n E dX4_meets_4 1 rfl rfl ?_
  refine z_ialdN (f := (T.2 6)) E dX4_meets_5 1 rfl (by omega) (by decide) ?_
  refine z_iload_n E dX4_meets_6 2 rfl rfl ?_
  refine z_icmpN_eq E dX4_meets_7 20 (by decide) (hsT.2 _ _) (by omega) (fun c1 => ?_) (fun c1 => ?_)
  · refine z_iconst (v := (nI 1)) E dX4_meets_20 (by decide) ?_
    refine z_goto E dX4_meets_21 25 (by decide) ?_
    refine z_zret E Er dX4_meets_25 (by decide) ?_
    exact ⟨bz1 (by simp [meetsT, c1]), rfl⟩
  · refine z_aload_n E dX4_meets_10 0 rfl rfl ?_
    refine gt_X4_15 (v := .ref (h 7)) E dX4_meets_11 0 rfl rfl ?_
    refine z_iload_n E dX4_meets_14 1 rfl rfl ?_
    refine z_ialdN (f := (T.2 7)) E dX4_meets_15 2 rfl (by omega) (by decide) ?_
    refine z_iload_n E dX4_meets_16 2 rfl rfl ?_
    refine z_icmpN_ne E dX4_meets_17 24 (by decide) (hsT.2 _ _) (by omega) (fun c2 => ?_) (fun c2 => ?_)
    · refine z_iconst (v := (nI 0)) E dX4_meets_24 (by decide) ?_
      refine z_zret E Er dX4_meets_25 (by decide) ?_
      exact ⟨bz0 (by simp [meetsT, c1, c2]), rfl⟩
    · refine z_iconst (v := (nI 1)) E dX4_meets_20 (by decide) ?_
      refine z_goto E dX4_meets_21 25 (by decide) ?_
      refine z_zret E Er dX4_meets_25 (by decide) ?_
      exact ⟨bz1 (by simp [meetsT, c1, c2]), rfl⟩

set_option maxHeartbeats 4000000 in
set_option maxRecDepth 100000 in
theorem c_X4_otherEnd (g : GC) (a : Nat) (h : Nat → Nat) (T : NS) (r : Nat) (p : Nat) (hsT : sm T) (hr : r < 12) (hp : p < 2 ^ 31) : Ct g yX4_otherEnd cX4_otherEnd 3 (some .int) 0 0 0 [.ref a, .int (nI r), .int (nI p)] (wTown g a h T) (DI (nI (otherT T r p)) (wTown g a h T)) := by
  refine Ct.of (by decide) (Nat.le_of_ble_eq_true rfl) ?_
  intro X E Er hX _ hnm
  have E : Ob g X cX4_otherEnd 3 RX4 := E
  refine z_lve (lv' := [(0, .ref a), (1, .int (nI r)), (2, .int (nI p))]) rfl ?_
  refine z_aload_n E dX4_otherEnd_0 0 rfl rfl ?_
  refine gt_X4_9 (v := .ref (h 6)) E dX4_otherEnd_1 0 rfl rfl ?_
  refine z_iload_n E dX4_otherEnd_4 1 rfl rfl ?_
  refine z_ialdN (f := (T.2 6)) E dX4_otherEnd_5 1 rfl (by omega) (by decide) ?_
  refine z_iload_n E dX4_otherEnd_6 2 rfl rfl ?_
  refine z_icmpN_ne E dX4_otherEnd_7 19 (by decide) (hsT.2 _ _) (by omega) (fun c1 => ?_) (fun c1 => ?_)
  · refine z_aload_n E dX4_otherEnd_19 0 rfl rfl ?_
    refine gt_X4_9 (v := .ref (h 6)) E dX4_otherEnd_20 0 rfl rfl ?_
    refine z_iload_n E dX4_otherEnd_23 1 rfl rfl ?_
    refine z_ialdN (f := (T.2 6)) E dX4_otherEnd_24 1 rfl (by omega) (by decide) ?_
    refine z_iret E Er dX4_otherEnd_25 ?_
    exact ⟨by simp [otherT, c1], rfl⟩
  · refine z_aload_n E dX4_otherEnd_10 0 rfl rfl ?_
    refine gt_X4_15 (v := .ref (h 7)) E dX4_otherEnd_11 0 rfl rfl ?_
    refine z_iload_n E dX4_otherEnd_14 1 rfl rfl ?_
    refine z_ialdN (f := (T.2 7)) E dX4_otherEnd_15 2 rfl (by omega) (by decide) ?_
    refine z_goto E dX4_otherEnd_16 25 (by decide) ?_
    refine z_iret E Er dX4_otherEnd_25 ?_
    exact ⟨by simp [otherT, c1], rfl⟩

set_option maxHeartbeats 4000000 in
set_option maxRecDepth 100000 in
theorem c_X4_allRoads (g : GC) (a : Nat) (h : Nat → Nat) (T : NS) (hr : T.1 1 ≤ 12) : Ct g yX4_allRoads cX4_allRoads 1 (some .int) 0 0 0 [.ref a] (wTown g a h T) (DI (nI (1 <<< T.1 1 - 1)) (wTown g a h T)) := by
  refine Ct.of (by decide) (Nat.le_of_ble_eq_true rfl) ?_
  intro X E Er hX _ hnm
  have E : Ob g X cX4_allRoads 1 RX4 := E
  refine z_lve (lv' := [(0, .ref a)]) rfl ?_
  refine z_iconst (v := (nI 1)) E dX4_allRoads_0 (by decide) ?_
  refine z_aload_n E dX4_allRoads_1 0 rfl rfl ?_
  refine gt_X4_31 (v := .int (nI (T.1 1))) E dX4_allRoads_2 0 rfl rfl ?_
  refine z_ishlN E dX4_allRoads_5 (by omega) ?_
  refine z_iconst (v := (nI 1)) E dX4_allRoads_6 (by decide) ?_
  refine z_isubN E dX4_allRoads_7 (by rw [Nat.one_shiftLeft]; exact Nat.one_le_two_pow) ?_
  refine z_iret E Er dX4_allRoads_8 ?_
  exact ⟨by simp [], rfl⟩

def rAt (T : NS) (p : Nat) : Nat → Nat
  | 0 => 0
  | i + 1 => if meetsT T i p = true then rAt T p i ||| 1 <<< i else rAt T p i

set_option maxHeartbeats 4000000 in
set_option maxRecDepth 100000 in
theorem l_roadsAt (g : GC) (a : Nat) (h : Nat → Nat) (T : NS) (p : Nat) (hsT : sm T) (hR : T.1 1 ≤ 12) (hp : p < 2 ^ 31) (X : XC) (E : Ob g X cX4_roadsAt 4 RX4) (hX : X.2.2.1 = zR 1 0 0) (K : ∀ (b : Nat), (b = rAt T p (T.1 1)) → Z g X 4 0 0 (wTown g a h T) [(0, .ref a), (1, .int (nI p)), (2, .int (nI b))] [] 33) : ∀ (n : Nat) (i : Nat) (b : Nat), (i ≤ T.1 1) → (b = rAt T p i) → (T.1 1 < i + n) → Z g X 4 0 0 (wTown g a h T) [(0, .ref a), (1, .int (nI p)), (2, .int (nI b)), (3, .int (nI i))] [] 4 := by
  intro n
  induction n with
  | zero =>
    intro i b hi hb hf
    exfalso; omega
  | succ n ih =>
    intro i b hi hb hf
    refine z_iload_n E dX4_roadsAt_4 3 rfl rfl ?_
    refine z_aload_n E dX4_roadsAt_5 0 rfl rfl ?_
    refine gt_X4_31 (v := .int (nI (T.1 1))) E dX4_roadsAt_6 0 rfl rfl ?_
    refine z_icmpN_ge E dX4_roadsAt_9 33 (by decide) (by omega) (hsT.1 _) (fun c1 => ?_) (fun c1 => ?_)
    · refine z_lv [0, 1, 2] rfl ?_; exact K b (by rw [hb, show i = T.1 1 by omega])
    · refine z_aload_n E dX4_roadsAt_12 0 rfl rfl ?_
      refine z_iload_n E dX4_roadsAt_13 3 rfl rfl ?_
      refine z_iload_n E dX4_roadsAt_14 1 rfl rfl ?_
      refine z_ro0 E (rV E hX (c_X4_meets g a h T i p hsT (by omega) (by omega)) mw_X4_meets ml_X4_46 dX4_roadsAt_15 (Nat.le_of_ble_eq_true rfl) ⟨(Nat.le_of_ble_eq_true rfl), (Nat.le_of_ble_eq_true rfl)⟩ rfl rfl (Nat.le_of_ble_eq_true rfl) 0 rfl rfl) ?_
      refine z_ifB_eq E dX4_roadsAt_18 27 (by decide) (fun c2 => ?_) (fun c2 => ?_)
      · refine z_iincN (lv' := [(0, .ref a), (1, .int (nI p)), (2, .int (nI b)), (3, .int (nI (i + 1)))]) E dX4_roadsAt_27 3 rfl (by decide) rfl ?_
        refine z_goto E dX4_roadsAt_30 4 (by decide) ?_
        exact ih (i + 1) b (by omega) (by simp [rAt, hb, c1, c2]) (by omega)
      · refine z_iload_n E dX4_roadsAt_21 2 rfl rfl ?_
        refine z_iconst (v := (nI 1)) E dX4_roadsAt_22 (by decide) ?_
        refine z_iload_n E dX4_roadsAt_23 3 rfl rfl ?_
        refine z_ishlN E dX4_roadsAt_24 (by omega) ?_
        refine z_iorN E dX4_roadsAt_25 ?_
        refine z_istore_n (lv' := [(0, .ref a), (1, .int (nI p)), (2, .int (nI (b ||| (1 <<< i)))), (3, .int (nI i))]) E dX4_roadsAt_26 2 rfl (by decide) rfl ?_
        refine z_iincN (lv' := [(0, .ref a), (1, .int (nI p)), (2, .int (nI (b ||| (1 <<< i)))), (3, .int (nI (i + 1)))]) E dX4_roadsAt_27 3 rfl (by decide) rfl ?_
        refine z_goto E dX4_roadsAt_30 4 (by decide) ?_
        exact ih (i + 1) (b ||| (1 <<< i)) (by omega) (by simp [rAt, hb, c1, c2]) (by omega)

set_option maxHeartbeats 4000000 in
set_option maxRecDepth 100000 in
theorem c_X4_roadsAt (g : GC) (a : Nat) (h : Nat → Nat) (T : NS) (p : Nat) (hsT : sm T) (hR : T.1 1 ≤ 12) (hp : p < 2 ^ 31) : Ct g yX4_roadsAt cX4_roadsAt 4 (some .int) 1 0 0 [.ref a, .int (nI p)] (wTown g a h T) (DI (nI (rAt T p (T.1 1))) (wTown g a h T)) := by
  refine Ct.of (by decide) (Nat.le_of_ble_eq_true rfl) ?_
  intro X E Er hX _ hnm
  have E : Ob g X cX4_roadsAt 4 RX4 := E
  refine z_lve (lv' := [(0, .ref a), (1, .int (nI p))]) rfl ?_
  refine z_iconst (v := (nI 0)) E dX4_roadsAt_0 (by decide) ?_
  refine z_istore_n (lv' := [(0, .ref a), (1, .int (nI p)), (2, .int (nI 0))]) E dX4_roadsAt_1 2 rfl (by decide) rfl ?_
  refine z_iconst (v := (nI 0)) E dX4_roadsAt_2 (by decide) ?_
  refine z_istore_n (lv' := [(0, .ref a), (1, .int (nI p)), (2, .int (nI 0)), (3, .int (nI 0))]) E dX4_roadsAt_3 3 rfl (by decide) rfl ?_
  refine l_roadsAt g a h T p hsT hR hp X E hX (fun b hb => ?_) (T.1 1 + 1) 0 0 (by omega) rfl (by omega)
  refine z_iload_n E dX4_roadsAt_33 2 rfl rfl ?_
  refine z_iret E Er dX4_roadsAt_34 ?_
  exact ⟨by rw [hb], rfl⟩

def isTn (T : NS) (by_ : Nat) (r : Nat) : Bool := decide (0 < by_ ∧ by_ ≤ T.1 1) && !(T.2 9 (by_ - 1)).testBit r
def nvT (T : NS) (by_ : Nat) (r : Nat) : Nat := if isTn T by_ r = true then T.1 4 else 0
theorem hasR_cm (T : NS) (hR : T.1 1 ≤ 12) (c : Nat) (hc : c < 2 ^ 31) : hasR T (cm c) = decide (0 < c ∧ c ≤ T.1 1) := by
  unfold hasR
  cases c with
  | zero => simp [cm]
  | succ c =>
    show (!decide (nI c < 0) && !decide (nI (T.1 1) ≤ nI c)) = _
    have h1 : ¬ nI c < 0 := nI_pos (by omega)
    have h2 : nI (T.1 1) ≤ nI c ↔ T.1 1 ≤ c := nI_leI (by omega) (by omega)
    simp only [h1, h2]
    by_cases h : T.1 1 ≤ c
    · simp [h]; omega
    · simp [h]; omega

set_option maxHeartbeats 4000000 in
set_option maxRecDepth 100000 in
theorem c_X4_isTurn (g : GC) (a : Nat) (h : Nat → Nat) (T : NS) (c : Nat) (r : Nat) (hsT : sm T) (hR : T.1 1 ≤ 12) (hc : c < 2 ^ 31) (hr : r < 32) : Ct g yX4_isTurn cX4_isTurn 3 (some .boolean) 1 0 0 [.ref a, .int (cm c), .int (nI r)] (wTown g a h T) (DI (bI (isTn T c r)) (wTown g a h T)) := by
  refine Ct.of (by decide) (Nat.le_of_ble_eq_true rfl) ?_
  intro X E Er hX _ hnm
  have E : Ob g X cX4_isTurn 3 RX4 := E
  refine z_lve (lv' := [(0, .ref a), (1, .int (cm c)), (2, .int (nI r))]) rfl ?_
  refine z_aload_n E dX4_isTurn_0 0 rfl rfl ?_
  refine z_iload_n E dX4_isTurn_1 1 rfl rfl ?_
  refine z_ro0 E (rV E hX (c_X4_hasRoad g a h T (cm c)) mw_X4_hasRoad ml_X4_50 dX4_isTurn_2 (Nat.le_of_ble_eq_true rfl) ⟨(Nat.le_of_ble_eq_true rfl), (Nat.le_of_ble_eq_true rfl)⟩ rfl rfl (Nat.le_of_ble_eq_true rfl) 0 rfl rfl) ?_
  refine z_ifB_eq E dX4_isTurn_5 25 (by decide) (fun c1 => ?_) (fun c1 => ?_)
  · refine z_iconst (v := (nI 0)) E dX4_isTurn_25 (by decide) ?_
    refine z_zret E Er dX4_isTurn_26 (by decide) ?_
    exact ⟨bz0 (by rw [isTn, ← hasR_cm T hR c hc, c1]; rfl), rfl⟩
  · have hcc : 0 < c ∧ c ≤ T.1 1 := by rw [hasR_cm T hR c hc] at c1; exact of_decide_eq_true c1
    obtain ⟨k, rfl⟩ : ∃ k, c = k + 1 := ⟨c - 1, by omega⟩
    refine z_lve (lv' := [(0, .ref a), (1, .int (nI k)), (2, .int (nI r))]) rfl ?_
    refine z_aload_n E dX4_isTurn_8 0 rfl rfl ?_
    refine gt_X4_21 (v := .ref (h 9)) E dX4_isTurn_9 0 rfl rfl ?_
    refine z_iload_n E dX4_isTurn_12 1 rfl rfl ?_
    refine z_ialdN (f := (T.2 9)) E dX4_isTurn_13 4 rfl (by omega) (by decide) ?_
    refine z_iload_n E dX4_isTurn_14 2 rfl rfl ?_
    refine z_se E (rSN E hX (c_X6_has g ((T.2 9) k) r (hsT.2 _ _) (by omega)) mw_X6_has ms_X6_has mn_X4_54 dX4_isTurn_15 (Nat.le_of_ble_eq_true rfl) ⟨(Nat.le_of_ble_eq_true rfl), (Nat.le_of_ble_eq_true rfl)⟩ rfl rfl (Nat.le_of_ble_eq_true rfl)) ?_
    refine z_ifB_ne E dX4_isTurn_18 25 (by decide) (fun c2 => ?_) (fun c2 => ?_)
    · refine z_iconst (v := (nI 0)) E dX4_isTurn_25 (by decide) ?_
      refine z_zret E Er dX4_isTurn_26 (by decide) ?_
      exact ⟨bz0 (by simp only [isTn, Nat.add_sub_cancel, c2]; simp), rfl⟩
    · refine z_iconst (v := (nI 1)) E dX4_isTurn_21 (by decide) ?_
      refine z_goto E dX4_isTurn_22 26 (by decide) ?_
      refine z_zret E Er dX4_isTurn_26 (by decide) ?_
      exact ⟨bz1 (by simp only [isTn, decide_eq_true_eq.mpr hcc, Nat.add_sub_cancel, c2]; rfl), rfl⟩

set_option maxHeartbeats 4000000 in
set_option maxRecDepth 100000 in
theorem c_X4_nervesFor (g : GC) (a : Nat) (h : Nat → Nat) (T : NS) (c : Nat) (r : Nat) (hsT : sm T) (hR : T.1 1 ≤ 12) (hc : c < 2 ^ 31) (hr : r < 32) : Ct g yX4_nervesFor cX4_nervesFor 3 (some .int) 2 0 0 [.ref a, .int (cm c), .int (nI r)] (wTown g a h T) (DI (nI (nvT T c r)) (wTown g a h T)) := by
  refine Ct.of (by decide) (Nat.le_of_ble_eq_true rfl) ?_
  intro X E Er hX _ hnm
  have E : Ob g X cX4_nervesFor 3 RX4 := E
  refine z_lve (lv' := [(0, .ref a), (1, .int (cm c)), (2, .int (nI r))]) rfl ?_
  refine z_aload_n E dX4_nervesFor_0 0 rfl rfl ?_
  refine z_iload_n E dX4_nervesFor_1 1 rfl rfl ?_
  refine z_iload_n E dX4_nervesFor_2 2 rfl rfl ?_
  refine z_ro0 E (rV E hX (c_X4_isTurn g a h T c r hsT (by omega) (by omega) (by omega)) mw_X4_isTurn ml_X4_57 dX4_nervesFor_3 (Nat.le_of_ble_eq_true rfl) ⟨(Nat.le_of_ble_eq_true rfl), (Nat.le_of_ble_eq_true rfl)⟩ rfl rfl (Nat.le_of_ble_eq_true rfl) 0 rfl rfl) ?_
  refine z_ifB_eq E dX4_nervesFor_6 16 (by decide) (fun c1 => ?_) (fun c1 => ?_)
  · refine z_iconst (v := (nI 0)) E dX4_nervesFor_16 (by decide) ?_
    refine z_iret E Er dX4_nervesFor_17 ?_
    exact ⟨by simp [nvT, c1], rfl⟩
  · refine z_aload_n E dX4_nervesFor_9 0 rfl rfl ?_
    refine gt_X4_40 (v := .int (nI (T.1 4))) E dX4_nervesFor_10 0 rfl rfl ?_
    refine z_goto E dX4_nervesFor_13 17 (by decide) ?_
    refine z_iret E Er dX4_nervesFor_17 ?_
    exact ⟨by simp [nvT, c1], rfl⟩

def addT (T : NS) (a b m : Nat) : NS := sA (sA (sA (sA (sF T 1 (T.1 1 + 1)) 6 (va_up (T.2 6) (T.1 1) a)) 7 (va_up (T.2 7) (T.1 1) b)) 8 (va_up (T.2 8) (T.1 1) m)) 9 (va_up (T.2 9) (T.1 1) 0)
def strT (T : NS) (r s : Nat) : NS := sA T 9 (va_up (va_up (T.2 9) r (T.2 9 r ||| 1 <<< s)) s (va_up (T.2 9) r (T.2 9 r ||| 1 <<< s) s ||| 1 <<< r))
def fstT (T : NS) : NS := sF (sF (sF (sF (sF (sF T 0 2) 1 0) 2 0) 3 1) 4 2) 5 1

set_option maxHeartbeats 4000000 in
set_option maxRecDepth 100000 in
theorem c_X4_addRoad (g : GC) (a : Nat) (h : Nat → Nat) (T : NS) (x : Nat) (y : Nat) (m : Nat) (hR : T.1 1 < 12) : Ct g yX4_addRoad cX4_addRoad 4 none 0 0 0 [.ref a, .int (nI x), .int (nI y), .int (nI m)] (wTown g a h T) (DV (wTown g a h (addT T x y m))) := by
  refine Ct.of (by decide) (Nat.le_of_ble_eq_true rfl) ?_
  intro X E Er hX _ hnm
  have E : Ob g X cX4_addRoad 4 RX4 := E
  refine z_lve (lv' := [(0, .ref a), (1, .int (nI x)), (2, .int (nI y)), (3, .int (nI m))]) rfl ?_
  refine z_aload_n E dX4_addRoad_0 0 rfl rfl ?_
  refine gt_X4_9 (v := .ref (h 6)) E dX4_addRoad_1 0 rfl rfl ?_
  refine z_aload_n E dX4_addRoad_4 0 rfl rfl ?_
  refine gt_X4_31 (v := .int (nI (T.1 1))) E dX4_addRoad_5 0 rfl rfl ?_
  refine z_iload_n E dX4_addRoad_8 1 rfl rfl ?_
  refine z_iastN (f := (T.2 6)) (i := (T.1 1)) (x := x) (ws' := wTown g a h (sA T 6 (va_up (T.2 6) (T.1 1) x))) E dX4_addRoad_9 1 rfl (by omega) (by decide) rfl ?_
  refine z_aload_n E dX4_addRoad_10 0 rfl rfl ?_
  refine gt_X4_15 (v := .ref (h 7)) E dX4_addRoad_11 0 rfl rfl ?_
  refine z_aload_n E dX4_addRoad_14 0 rfl rfl ?_
  refine gt_X4_31 (v := .int (nI (T.1 1))) E dX4_addRoad_15 0 rfl rfl ?_
  refine z_iload_n E dX4_addRoad_18 2 rfl rfl ?_
  refine z_iastN (f := (T.2 7)) (i := (T.1 1)) (x := y) (ws' := wTown g a h (sA (sA T 6 (va_up (T.2 6) (T.1 1) x)) 7 (va_up (T.2 7) (T.1 1) y))) E dX4_addRoad_19 2 rfl (by omega) (by decide) rfl ?_
  refine z_aload_n E dX4_addRoad_20 0 rfl rfl ?_
  refine gt_X4_18 (v := .ref (h 8)) E dX4_addRoad_21 0 rfl rfl ?_
  refine z_aload_n E dX4_addRoad_24 0 rfl rfl ?_
  refine gt_X4_31 (v := .int (nI (T.1 1))) E dX4_addRoad_25 0 rfl rfl ?_
  refine z_iload_n E dX4_addRoad_28 3 rfl rfl ?_
  refine z_iastN (f := (T.2 8)) (i := (T.1 1)) (x := m) (ws' := wTown g a h (sA (sA (sA T 6 (va_up (T.2 6) (T.1 1) x)) 7 (va_up (T.2 7) (T.1 1) y)) 8 (va_up (T.2 8) (T.1 1) m))) E dX4_addRoad_29 3 rfl (by omega) (by decide) rfl ?_
  refine z_aload_n E dX4_addRoad_30 0 rfl rfl ?_
  refine gt_X4_21 (v := .ref (h 9)) E dX4_addRoad_31 0 rfl rfl ?_
  refine z_aload_n E dX4_addRoad_34 0 rfl rfl ?_
  refine gt_X4_31 (v := .int (nI (T.1 1))) E dX4_addRoad_35 0 rfl rfl ?_
  refine z_iconst (v := (nI 0)) E dX4_addRoad_38 (by decide) ?_
  refine z_iastN (f := (T.2 9)) (i := (T.1 1)) (x := 0) (ws' := wTown g a h (sA (sA (sA (sA T 6 (va_up (T.2 6) (T.1 1) x)) 7 (va_up (T.2 7) (T.1 1) y)) 8 (va_up (T.2 8) (T.1 1) m)) 9 (va_up (T.2 9) (T.1 1) 0))) E dX4_addRoad_39 4 rfl (by omega) (by decide) rfl ?_
  refine z_aload_n E dX4_addRoad_40 0 rfl rfl ?_
  refine z_dup E dX4_addRoad_41 rfl ?_
  refine gt_X4_31 (v := .int (nI (T.1 1))) E dX4_addRoad_42 0 rfl rfl ?_
  refine z_iconst (v := (nI 1)) E dX4_addRoad_45 (by decide) ?_
  refine z_iaddN E dX4_addRoad_46 ?_
  refine pt_X4_31 (x := nI ((T.1 1) + 1)) (ws' := wTown g a h (sA (sA (sA (sA (sF T 1 ((T.1 1) + 1)) 6 (va_up (T.2 6) (T.1 1) x)) 7 (va_up (T.2 7) (T.1 1) y)) 8 (va_up (T.2 8) (T.1 1) m)) 9 (va_up (T.2 9) (T.1 1) 0))) E dX4_addRoad_47 0 rfl (Nat.le_of_ble_eq_true rfl) rfl ?_
  refine z_vret E Er dX4_addRoad_50 ?_
  exact ⟨rfl, rfl⟩

set_option maxHeartbeats 4000000 in
set_option maxRecDepth 100000 in
theorem c_X4_makeStraight (g : GC) (a : Nat) (h : Nat → Nat) (T : NS) (r : Nat) (s : Nat) (hr : r < 12) (hs : s < 12) : Ct g yX4_makeStraight cX4_makeStraight 3 none 0 0 0 [.ref a, .int (nI r), .int (nI s)] (wTown g a h T) (DV (wTown g a h (strT T r s))) := by
  refine Ct.of (by decide) (Nat.le_of_ble_eq_true rfl) ?_
  intro X E Er hX _ hnm
  have E : Ob g X cX4_makeStraight 3 RX4 := E
  refine z_lve (lv' := [(0, .ref a), (1, .int (nI r)), (2, .int (nI s))]) rfl ?_
  refine z_aload_n E dX4_makeStraight_0 0 rfl rfl ?_
  refine gt_X4_21 (v := .ref (h 9)) E dX4_makeStraight_1 0 rfl rfl ?_
  refine z_iload_n E dX4_makeStraight_4 1 rfl rfl ?_
  refine z_dup2 E dX4_makeStraight_5 rfl rfl ?_
  refine z_ialdN (f := (T.2 9)) E dX4_makeStraight_6 4 rfl (by omega) (by decide) ?_
  refine z_iconst (v := (nI 1)) E dX4_makeStraight_7 (by decide) ?_
  refine z_iload_n E dX4_makeStraight_8 2 rfl rfl ?_
  refine z_ishlN E dX4_makeStraight_9 (by omega) ?_
  refine z_iorN E dX4_makeStraight_10 ?_
  refine z_iastN (f := (T.2 9)) (i := r) (x := (((T.2 9) r) ||| (1 <<< s))) (ws' := wTown g a h (sA T 9 (va_up (T.2 9) r (((T.2 9) r) ||| (1 <<< s))))) E dX4_makeStraight_11 4 rfl (by omega) (by decide) rfl ?_
  refine z_aload_n E dX4_makeStraight_12 0 rfl rfl ?_
  refine gt_X4_21 (v := .ref (h 9)) E dX4_makeStraight_13 0 rfl rfl ?_
  refine z_iload_n E dX4_makeStraight_16 2 rfl rfl ?_
  refine z_dup2 E dX4_makeStraight_17 rfl rfl ?_
  refine z_ialdN (f := (va_up (T.2 9) r (((T.2 9) r) ||| (1 <<< s)))) E dX4_makeStraight_18 4 rfl (by omega) (by decide) ?_
  refine z_iconst (v := (nI 1)) E dX4_makeStraight_19 (by decide) ?_
  refine z_iload_n E dX4_makeStraight_20 1 rfl rfl ?_
  refine z_ishlN E dX4_makeStraight_21 (by omega) ?_
  refine z_iorN E dX4_makeStraight_22 ?_
  refine z_iastN (f := (va_up (T.2 9) r (((T.2 9) r) ||| (1 <<< s)))) (i := s) (x := (((va_up (T.2 9) r (((T.2 9) r) ||| (1 <<< s))) s) ||| (1 <<< r))) (ws' := wTown g a h (sA T 9 (va_up (va_up (T.2 9) r (((T.2 9) r) ||| (1 <<< s))) s (((va_up (T.2 9) r (((T.2 9) r) ||| (1 <<< s))) s) ||| (1 <<< r))))) E dX4_makeStraight_23 4 rfl (by omega) (by decide) rfl ?_
  refine z_vret E Er dX4_makeStraight_24 ?_
  exact ⟨rfl, rfl⟩

set_option maxHeartbeats 4000000 in
set_option maxRecDepth 100000 in
theorem c_X4_beAsAtFirst (g : GC) (a : Nat) (h : Nat → Nat) (T : NS) : Ct g yX4_beAsAtFirst cX4_beAsAtFirst 1 none 0 0 0 [.ref a] (wTown g a h T) (DV (wTown g a h (fstT T))) := by
  refine Ct.of (by decide) (Nat.le_of_ble_eq_true rfl) ?_
  intro X E Er hX _ hnm
  have E : Ob g X cX4_beAsAtFirst 1 RX4 := E
  refine z_lve (lv' := [(0, .ref a)]) rfl ?_
  refine z_aload_n E dX4_beAsAtFirst_0 0 rfl rfl ?_
  refine z_iconst (v := (nI 2)) E dX4_beAsAtFirst_1 (by decide) ?_
  refine pt_X4_27 (x := nI 2) (ws' := wTown g a h (sF T 0 2)) E dX4_beAsAtFirst_2 0 rfl (Nat.le_of_ble_eq_true rfl) rfl ?_
  refine z_aload_n E dX4_beAsAtFirst_5 0 rfl rfl ?_
  refine z_iconst (v := (nI 0)) E dX4_beAsAtFirst_6 (by decide) ?_
  refine pt_X4_31 (x := nI 0) (ws' := wTown g a h (sF (sF T 0 2) 1 0)) E dX4_beAsAtFirst_7 0 rfl (Nat.le_of_ble_eq_true rfl) rfl ?_
  refine z_aload_n E dX4_beAsAtFirst_10 0 rfl rfl ?_
  refine z_iconst (v := (nI 0)) E dX4_beAsAtFirst_11 (by decide) ?_
  refine pt_X4_34 (x := nI 0) (ws' := wTown g a h (sF (sF (sF T 0 2) 1 0) 2 0)) E dX4_beAsAtFirst_12 0 rfl (Nat.le_of_ble_eq_true rfl) rfl ?_
  refine z_aload_n E dX4_beAsAtFirst_15 0 rfl rfl ?_
  refine z_iconst (v := (nI 1)) E dX4_beAsAtFirst_16 (by decide) ?_
  refine pt_X4_37 (x := nI 1) (ws' := wTown g a h (sF (sF (sF (sF T 0 2) 1 0) 2 0) 3 1)) E dX4_beAsAtFirst_17 0 rfl (Nat.le_of_ble_eq_true rfl) rfl ?_
  refine z_aload_n E dX4_beAsAtFirst_20 0 rfl rfl ?_
  refine z_iconst (v := (nI 2)) E dX4_beAsAtFirst_21 (by decide) ?_
  refine pt_X4_40 (x := nI 2) (ws' := wTown g a h (sF (sF (sF (sF (sF T 0 2) 1 0) 2 0) 3 1) 4 2)) E dX4_beAsAtFirst_22 0 rfl (Nat.le_of_ble_eq_true rfl) rfl ?_
  refine z_aload_n E dX4_beAsAtFirst_25 0 rfl rfl ?_
  refine z_iconst (v := (nI 1)) E dX4_beAsAtFirst_26 (by decide) ?_
  refine pt_X4_43 (x := nI 1) (ws' := wTown g a h (sF (sF (sF (sF (sF (sF T 0 2) 1 0) 2 0) 3 1) 4 2) 5 1)) E dX4_beAsAtFirst_27 0 rfl (Nat.le_of_ble_eq_true rfl) rfl ?_
  refine z_vret E Er dX4_beAsAtFirst_30 ?_
  exact ⟨rfl, rfl⟩
end
section
def st0 (p : Nat) : NS := (fun k => if k = 0 then p else 0, fun _ _ => 0)
theorem st0_sm {p : Nat} (h : p < 2 ^ 31) : sm (st0 p) := ⟨fun k => by unfold st0; dsimp only; split; exact h; decide, fun _ _ => show (0 : Nat) < 2 ^ 31 by decide⟩

set_option maxHeartbeats 4000000 in
set_option maxRecDepth 100000 in
theorem c_J6_bitCount_0f7a4 (g : GC) (x : Nat) (hx : x < 4096) : Ct g yJ6_bitCount_0f7a4 cJ6_bitCount_0f7a4 1 (some .int) 0 0 0 [.int (nI x)] (([] : va_W)) (DI (nI (pc12 x)) (([] : va_W))) := by
  refine Ct.of (by decide) (Nat.le_of_ble_eq_true rfl) ?_
  intro X E Er hX _ hnm
  have E : Ob g X cJ6_bitCount_0f7a4 1 RJ6 := E
  refine z_lve (lv' := [(0, .int (nI x))]) rfl ?_
  refine z_iload_n E dJ6_bitCount_0f7a4_0 0 rfl rfl ?_
  refine z_iload_n E dJ6_bitCount_0f7a4_1 0 rfl rfl ?_
  refine z_iconst (v := (nI 1)) E dJ6_bitCount_0f7a4_2 (by decide) ?_
  refine z_iushr (v := bcU (nI x) (nI 1)) E dJ6_bitCount_0f7a4_3 rfl ?_
  refine z_ldcw (v := nI 1431655765) E dJ6_bitCount_0f7a4_4 kc_J6_265 ?_
  refine z_iand E dJ6_bitCount_0f7a4_7 ?_
  refine z_isub E dJ6_bitCount_0f7a4_8 ?_
  refine z_istore_n (lv' := [(0, .int ((nI x) - ((bcU (nI x) (nI 1)) &&& (nI 1431655765))))]) E dJ6_bitCount_0f7a4_9 0 rfl (by decide) rfl ?_
  refine z_iload_n E dJ6_bitCount_0f7a4_10 0 rfl rfl ?_
  refine z_ldcw (v := nI 858993459) E dJ6_bitCount_0f7a4_11 kc_J6_266 ?_
  refine z_iand E dJ6_bitCount_0f7a4_14 ?_
  refine z_iload_n E dJ6_bitCount_0f7a4_15 0 rfl rfl ?_
  refine z_iconst (v := (nI 2)) E dJ6_bitCount_0f7a4_16 (by decide) ?_
  refine z_iushr (v := bcU ((nI x) - ((bcU (nI x) (nI 1)) &&& (nI 1431655765))) (nI 2)) E dJ6_bitCount_0f7a4_17 rfl ?_
  refine z_ldcw (v := nI 858993459) E dJ6_bitCount_0f7a4_18 kc_J6_266 ?_
  refine z_iand E dJ6_bitCount_0f7a4_21 ?_
  refine z_iadd E dJ6_bitCount_0f7a4_22 ?_
  refine z_istore_n (lv' := [(0, .int ((((nI x) - ((bcU (nI x) (nI 1)) &&& (nI 1431655765))) &&& (nI 858993459)) + ((bcU ((nI x) - ((bcU (nI x) (nI 1)) &&& (nI 1431655765))) (nI 2)) &&& (nI 858993459))))]) E dJ6_bitCount_0f7a4_23 0 rfl (by decide) rfl ?_
  refine z_iload_n E dJ6_bitCount_0f7a4_24 0 rfl rfl ?_
  refine z_iload_n E dJ6_bitCount_0f7a4_25 0 rfl rfl ?_
  refine z_iconst (v := (nI 4)) E dJ6_bitCount_0f7a4_26 (by decide) ?_
  refine z_iushr (v := bcU ((((nI x) - ((bcU (nI x) (nI 1)) &&& (nI 1431655765))) &&& (nI 858993459)) + ((bcU ((nI x) - ((bcU (nI x) (nI 1)) &&& (nI 1431655765))) (nI 2)) &&& (nI 858993459))) (nI 4)) E dJ6_bitCount_0f7a4_27 rfl ?_
  refine z_iadd E dJ6_bitCount_0f7a4_28 ?_
  refine z_ldcw (v := nI 252645135) E dJ6_bitCount_0f7a4_29 kc_J6_267 ?_
  refine z_iand E dJ6_bitCount_0f7a4_32 ?_
  refine z_istore_n (lv' := [(0, .int ((((((nI x) - ((bcU (nI x) (nI 1)) &&& (nI 1431655765))) &&& (nI 858993459)) + ((bcU ((nI x) - ((bcU (nI x) (nI 1)) &&& (nI 1431655765))) (nI 2)) &&& (nI 858993459))) + (bcU ((((nI x) - ((bcU (nI x) (nI 1)) &&& (nI 1431655765))) &&& (nI 858993459)) + ((bcU ((nI x) - ((bcU (nI x) (nI 1)) &&& (nI 1431655765))) (nI 2)) &&& (nI 858993459))) (nI 4))) &&& (nI 252645135)))]) E dJ6_bitCount_0f7a4_33 0 rfl (by decide) rfl ?_
  refine z_iload_n E dJ6_bitCount_0f7a4_34 0 rfl rfl ?_
  refine z_iload_n E dJ6_bitCount_0f7a4_35 0 rfl rfl ?_
  refine z_bipush (v := (nI 8)) E dJ6_bitCount_0f7a4_36 (by decide) ?_
  refine z_iushr (v := bcU ((((((nI x) - ((bcU (nI x) (nI 1)) &&& (nI 1431655765))) &&& (nI 858993459)) + ((bcU ((nI x) - ((bcU (nI x) (nI 1)) &&& (nI 1431655765))) (nI 2)) &&& (nI 858993459))) + (bcU ((((nI x) - ((bcU (nI x) (nI 1)) &&& (nI 1431655765))) &&& (nI 858993459)) + ((bcU ((nI x) - ((bcU (nI x) (nI 1)) &&& (nI 1431655765))) (nI 2)) &&& (nI 858993459))) (nI 4))) &&& (nI 252645135)) (nI 8)) E dJ6_bitCount_0f7a4_38 rfl ?_
  refine z_iadd E dJ6_bitCount_0f7a4_39 ?_
  refine z_istore_n (lv' := [(0, .int (((((((nI x) - ((bcU (nI x) (nI 1)) &&& (nI 1431655765))) &&& (nI 858993459)) + ((bcU ((nI x) - ((bcU (nI x) (nI 1)) &&& (nI 1431655765))) (nI 2)) &&& (nI 858993459))) + (bcU ((((nI x) - ((bcU (nI x) (nI 1)) &&& (nI 1431655765))) &&& (nI 858993459)) + ((bcU ((nI x) - ((bcU (nI x) (nI 1)) &&& (nI 1431655765))) (nI 2)) &&& (nI 858993459))) (nI 4))) &&& (nI 252645135)) + (bcU ((((((nI x) - ((bcU (nI x) (nI 1)) &&& (nI 1431655765))) &&& (nI 858993459)) + ((bcU ((nI x) - ((bcU (nI x) (nI 1)) &&& (nI 1431655765))) (nI 2)) &&& (nI 858993459))) + (bcU ((((nI x) - ((bcU (nI x) (nI 1)) &&& (nI 1431655765))) &&& (nI 858993459)) + ((bcU ((nI x) - ((bcU (nI x) (nI 1)) &&& (nI 1431655765))) (nI 2)) &&& (nI 858993459))) (nI 4))) &&& (nI 252645135)) (nI 8))))]) E dJ6_bitCount_0f7a4_40 0 rfl (by decide) rfl ?_
  refine z_iload_n E dJ6_bitCount_0f7a4_41 0 rfl rfl ?_
  refine z_iload_n E dJ6_bitCount_0f7a4_42 0 rfl rfl ?_
  refine z_bipush (v := (nI 16)) E dJ6_bitCount_0f7a4_43 (by decide) ?_
  refine z_iushr (v := bcU (((((((nI x) - ((bcU (nI x) (nI 1)) &&& (nI 1431655765))) &&& (nI 858993459)) + ((bcU ((nI x) - ((bcU (nI x) (nI 1)) &&& (nI 1431655765))) (nI 2)) &&& (nI 858993459))) + (bcU ((((nI x) - ((bcU (nI x) (nI 1)) &&& (nI 1431655765))) &&& (nI 858993459)) + ((bcU ((nI x) - ((bcU (nI x) (nI 1)) &&& (nI 1431655765))) (nI 2)) &&& (nI 858993459))) (nI 4))) &&& (nI 252645135)) + (bcU ((((((nI x) - ((bcU (nI x) (nI 1)) &&& (nI 1431655765))) &&& (nI 858993459)) + ((bcU ((nI x) - ((bcU (nI x) (nI 1)) &&& (nI 1431655765))) (nI 2)) &&& (nI 858993459))) + (bcU ((((nI x) - ((bcU (nI x) (nI 1)) &&& (nI 1431655765))) &&& (nI 858993459)) + ((bcU ((nI x) - ((bcU (nI x) (nI 1)) &&& (nI 1431655765))) (nI 2)) &&& (nI 858993459))) (nI 4))) &&& (nI 252645135)) (nI 8))) (nI 16)) E dJ6_bitCount_0f7a4_45 rfl ?_
  refine z_iadd E dJ6_bitCount_0f7a4_46 ?_
  refine z_istore_n (lv' := [(0, .int ((((((((nI x) - ((bcU (nI x) (nI 1)) &&& (nI 1431655765))) &&& (nI 858993459)) + ((bcU ((nI x) - ((bcU (nI x) (nI 1)) &&& (nI 1431655765))) (nI 2)) &&& (nI 858993459))) + (bcU ((((nI x) - ((bcU (nI x) (nI 1)) &&& (nI 1431655765))) &&& (nI 858993459)) + ((bcU ((nI x) - ((bcU (nI x) (nI 1)) &&& (nI 1431655765))) (nI 2)) &&& (nI 858993459))) (nI 4))) &&& (nI 252645135)) + (bcU ((((((nI x) - ((bcU (nI x) (nI 1)) &&& (nI 1431655765))) &&& (nI 858993459)) + ((bcU ((nI x) - ((bcU (nI x) (nI 1)) &&& (nI 1431655765))) (nI 2)) &&& (nI 858993459))) + (bcU ((((nI x) - ((bcU (nI x) (nI 1)) &&& (nI 1431655765))) &&& (nI 858993459)) + ((bcU ((nI x) - ((bcU (nI x) (nI 1)) &&& (nI 1431655765))) (nI 2)) &&& (nI 858993459))) (nI 4))) &&& (nI 252645135)) (nI 8))) + (bcU (((((((nI x) - ((bcU (nI x) (nI 1)) &&& (nI 1431655765))) &&& (nI 858993459)) + ((bcU ((nI x) - ((bcU (nI x) (nI 1)) &&& (nI 1431655765))) (nI 2)) &&& (nI 858993459))) + (bcU ((((nI x) - ((bcU (nI x) (nI 1)) &&& (nI 1431655765))) &&& (nI 858993459)) + ((bcU ((nI x) - ((bcU (nI x) (nI 1)) &&& (nI 1431655765))) (nI 2)) &&& (nI 858993459))) (nI 4))) &&& (nI 252645135)) + (bcU ((((((nI x) - ((bcU (nI x) (nI 1)) &&& (nI 1431655765))) &&& (nI 858993459)) + ((bcU ((nI x) - ((bcU (nI x) (nI 1)) &&& (nI 1431655765))) (nI 2)) &&& (nI 858993459))) + (bcU ((((nI x) - ((bcU (nI x) (nI 1)) &&& (nI 1431655765))) &&& (nI 858993459)) + ((bcU ((nI x) - ((bcU (nI x) (nI 1)) &&& (nI 1431655765))) (nI 2)) &&& (nI 858993459))) (nI 4))) &&& (nI 252645135)) (nI 8))) (nI 16))))]) E dJ6_bitCount_0f7a4_47 0 rfl (by decide) rfl ?_
  refine z_iload_n E dJ6_bitCount_0f7a4_48 0 rfl rfl ?_
  refine z_bipush (v := (nI 63)) E dJ6_bitCount_0f7a4_49 (by decide) ?_
  refine z_iand E dJ6_bitCount_0f7a4_51 ?_
  refine z_iret E Er dJ6_bitCount_0f7a4_52 ?_
  exact ⟨congrArg (fun z => some (Value.int z)) (bc_all x hx), rfl⟩

set_option maxHeartbeats 4000000 in
set_option maxRecDepth 100000 in
theorem c_X2_isShut (g : GC) (a : Nat) (h : Nat → Nat) (T : NS) (r : Nat) (hs : T.1 4 < 2 ^ 31) (hr : r < 32) : Ct g yX2_isShut cX2_isShut 2 (some .boolean) 1 0 0 [.ref a, .int (nI r)] (wPres g a h T) (DI (bI ((T.1 4).testBit r)) (wPres g a h T)) := by
  refine Ct.of (by decide) (Nat.le_of_ble_eq_true rfl) ?_
  intro X E Er hX _ hnm
  have E : Ob g X cX2_isShut 2 RX2 := E
  refine z_lve (lv' := [(0, .ref a), (1, .int (nI r))]) rfl ?_
  refine z_aload_n E dX2_isShut_0 0 rfl rfl ?_
  refine gt_X2_28 (v := .int (nI (T.1 4))) E dX2_isShut_1 0 rfl rfl ?_
  refine z_iload_n E dX2_isShut_4 1 rfl rfl ?_
  refine z_se E (rSN E hX (c_X6_has g (T.1 4) r (by omega) (by omega)) mw_X6_has ms_X6_has mn_X2_37 dX2_isShut_5 (Nat.le_of_ble_eq_true rfl) ⟨(Nat.le_of_ble_eq_true rfl), (Nat.le_of_ble_eq_true rfl)⟩ rfl rfl (Nat.le_of_ble_eq_true rfl)) ?_
  refine z_zret E Er dX2_isShut_8 (bI_nar _) ?_
  exact ⟨rfl, rfl⟩

set_option maxHeartbeats 4000000 in
set_option maxRecDepth 100000 in
theorem l_startAt (g : GC) (a : Nat) (h : Nat → Nat) (T : NS) (p : Nat) (X : XC) (E : Ob g X cX2_startAt 3 RX2) (hX : X.2.2.1 = zR 0 0 0) (K : ∀ (f : Nat → Nat), (∀ j, j < 12 → f j = 0) → Z g X 3 0 0 (wPres g a h (sA (sF (sF (sF (sF (sF T 0 p) 1 0) 2 0) 3 0) 4 0) 5 f)) [(0, .ref a), (1, .int (nI p))] [] 47) : ∀ (n : Nat) (i : Nat) (f : Nat → Nat), (i ≤ 12) → (∀ j, j < i → f j = 0) → (12 < i + n) → Z g X 3 0 0 (wPres g a h (sA (sF (sF (sF (sF (sF T 0 p) 1 0) 2 0) 3 0) 4 0) 5 f)) [(0, .ref a), (1, .int (nI p)), (2, .int (nI i))] [] 28 := by
  intro n
  induction n with
  | zero =>
    intro i f hi hf0 hf
    exfalso; omega
  | succ n ih =>
    intro i f hi hf0 hf
    refine z_iload_n E dX2_startAt_28 2 rfl rfl ?_
    refine z_bipush (v := (nI 12)) E dX2_startAt_29 (by decide) ?_
    refine z_icmpN_ge E dX2_startAt_31 47 (by decide) (by omega) (by decide) (fun c1 => ?_) (fun c1 => ?_)
    · refine z_lv [0, 1] rfl ?_; exact K f (fun j hj => hf0 j (by omega))
    · refine z_aload_n E dX2_startAt_34 0 rfl rfl ?_
      refine gt_X2_15 (v := .ref (h 5)) E dX2_startAt_35 0 rfl rfl ?_
      refine z_iload_n E dX2_startAt_38 2 rfl rfl ?_
      refine z_iconst (v := (nI 0)) E dX2_startAt_39 (by decide) ?_
      refine z_iastN (f := f) (i := i) (x := 0) (ws' := wPres g a h (sA (sF (sF (sF (sF (sF T 0 p) 1 0) 2 0) 3 0) 4 0) 5 (va_up f i 0))) E dX2_startAt_40 1 rfl (by omega) (by decide) rfl ?_
      refine z_iincN (lv' := [(0, .ref a), (1, .int (nI p)), (2, .int (nI (i + 1)))]) E dX2_startAt_41 2 rfl (by decide) rfl ?_
      refine z_goto E dX2_startAt_44 28 (by decide) ?_
      exact ih (i + 1) (va_up f i 0) (by omega) (fun j hj => by unfold va_up; split; rfl; exact hf0 j (by omega)) (by omega)

set_option maxHeartbeats 4000000 in
set_option maxRecDepth 100000 in
theorem c_X2_startAt (g : GC) (a : Nat) (h : Nat → Nat) (T : NS) (p : Nat) : Ct g yX2_startAt cX2_startAt 3 none 0 0 0 [.ref a, .int (nI p)] (wPres g a h T) (DV (wPres g a h (st0 p))) := by
  refine Ct.of (by decide) (Nat.le_of_ble_eq_true rfl) ?_
  intro X E Er hX _ hnm
  have E : Ob g X cX2_startAt 3 RX2 := E
  refine z_lve (lv' := [(0, .ref a), (1, .int (nI p))]) rfl ?_
  refine z_aload_n E dX2_startAt_0 0 rfl rfl ?_
  refine z_iload_n E dX2_startAt_1 1 rfl rfl ?_
  refine pt_X2_19 (x := nI p) (ws' := wPres g a h (sF T 0 p)) E dX2_startAt_2 0 rfl (Nat.le_of_ble_eq_true rfl) rfl ?_
  refine z_aload_n E dX2_startAt_5 0 rfl rfl ?_
  refine z_bipush (v := (-9)) E dX2_startAt_6 (by decide) ?_
  refine pt_X2_9 (x := cm 0) (ws' := wPres g a h (sF (sF T 0 p) 1 0)) E dX2_startAt_8 0 rfl (Nat.le_of_ble_eq_true rfl) rfl ?_
  refine z_aload_n E dX2_startAt_11 0 rfl rfl ?_
  refine z_iconst (v := (nI 0)) E dX2_startAt_12 (by decide) ?_
  refine pt_X2_22 (x := nI 0) (ws' := wPres g a h (sF (sF (sF T 0 p) 1 0) 2 0)) E dX2_startAt_13 0 rfl (Nat.le_of_ble_eq_true rfl) rfl ?_
  refine z_aload_n E dX2_startAt_16 0 rfl rfl ?_
  refine z_iconst (v := (nI 0)) E dX2_startAt_17 (by decide) ?_
  refine pt_X2_25 (x := nI 0) (ws' := wPres g a h (sF (sF (sF (sF T 0 p) 1 0) 2 0) 3 0)) E dX2_startAt_18 0 rfl (Nat.le_of_ble_eq_true rfl) rfl ?_
  refine z_aload_n E dX2_startAt_21 0 rfl rfl ?_
  refine z_iconst (v := (nI 0)) E dX2_startAt_22 (by decide) ?_
  refine pt_X2_28 (x := nI 0) (ws' := wPres g a h (sF (sF (sF (sF (sF T 0 p) 1 0) 2 0) 3 0) 4 0)) E dX2_startAt_23 0 rfl (Nat.le_of_ble_eq_true rfl) rfl ?_
  refine z_iconst (v := (nI 0)) E dX2_startAt_26 (by decide) ?_
  refine z_istore_n (lv' := [(0, .ref a), (1, .int (nI p)), (2, .int (nI 0))]) E dX2_startAt_27 2 rfl (by decide) rfl ?_
  refine l_startAt g a h T p X E hX (fun f hf0 => ?_) 13 0 (T.2 5) (by omega) (fun j hj => absurd hj (Nat.not_lt_zero j)) (by omega)
  refine z_arrN (f := f) (f' := (fun _ => 0)) (ws' := wPres g a h (st0 p)) 1 rfl (hf0) rfl ?_
  refine z_vret E Er dX2_startAt_47 ?_
  exact ⟨rfl, rfl⟩

set_option maxHeartbeats 4000000 in
set_option maxRecDepth 100000 in
theorem c_X2_become (g : GC) (a : Nat) (h : Nat → Nat) (T : NS) (b : Nat) (i : Nat → Nat) (S : NS) : Ct g yX2_become cX2_become 2 none 1 0 0 [.ref a, .ref b] (wPres g a h T ++ wPres g b i S) (DV (wPres g a h S ++ wPres g b i S)) := by
  refine Ct.of (by decide) (Nat.le_of_ble_eq_true rfl) ?_
  intro X E Er hX _ hnm
  have E : Ob g X cX2_become 2 RX2 := E
  refine z_lve (lv' := [(0, .ref a), (1, .ref b)]) rfl ?_
  refine z_aload_n E dX2_become_0 0 rfl rfl ?_
  refine z_aload_n E dX2_become_1 1 rfl rfl ?_
  refine gt_X2_19 (v := .int (nI (S.1 0))) E dX2_become_2 2 rfl rfl ?_
  refine pt_X2_19 (x := nI (S.1 0)) (ws' := wPres g a h (sF T 0 (S.1 0)) ++ wPres g b i S) E dX2_become_5 0 rfl (Nat.le_of_ble_eq_true rfl) rfl ?_
  refine z_aload_n E dX2_become_8 0 rfl rfl ?_
  refine z_aload_n E dX2_become_9 1 rfl rfl ?_
  refine gt_X2_9 (v := .int (cm (S.1 1))) E dX2_become_10 2 rfl rfl ?_
  refine pt_X2_9 (x := cm (S.1 1)) (ws' := wPres g a h (sF (sF T 0 (S.1 0)) 1 (S.1 1)) ++ wPres g b i S) E dX2_become_13 0 rfl (Nat.le_of_ble_eq_true rfl) rfl ?_
  refine z_aload_n E dX2_become_16 0 rfl rfl ?_
  refine z_aload_n E dX2_become_17 1 rfl rfl ?_
  refine gt_X2_22 (v := .int (nI (S.1 2))) E dX2_become_18 2 rfl rfl ?_
  refine pt_X2_22 (x := nI (S.1 2)) (ws' := wPres g a h (sF (sF (sF T 0 (S.1 0)) 1 (S.1 1)) 2 (S.1 2)) ++ wPres g b i S) E dX2_become_21 0 rfl (Nat.le_of_ble_eq_true rfl) rfl ?_
  refine z_aload_n E dX2_become_24 0 rfl rfl ?_
  refine z_aload_n E dX2_become_25 1 rfl rfl ?_
  refine gt_X2_25 (v := .int (nI (S.1 3))) E dX2_become_26 2 rfl rfl ?_
  refine pt_X2_25 (x := nI (S.1 3)) (ws' := wPres g a h (sF (sF (sF (sF T 0 (S.1 0)) 1 (S.1 1)) 2 (S.1 2)) 3 (S.1 3)) ++ wPres g b i S) E dX2_become_29 0 rfl (Nat.le_of_ble_eq_true rfl) rfl ?_
  refine z_aload_n E dX2_become_32 0 rfl rfl ?_
  refine z_aload_n E dX2_become_33 1 rfl rfl ?_
  refine gt_X2_28 (v := .int (nI (S.1 4))) E dX2_become_34 2 rfl rfl ?_
  refine pt_X2_28 (x := nI (S.1 4)) (ws' := wPres g a h (sF (sF (sF (sF (sF T 0 (S.1 0)) 1 (S.1 1)) 2 (S.1 2)) 3 (S.1 3)) 4 (S.1 4)) ++ wPres g b i S) E dX2_become_37 0 rfl (Nat.le_of_ble_eq_true rfl) rfl ?_
  refine z_aload_n E dX2_become_40 1 rfl rfl ?_
  refine gt_X2_15 (v := .ref (i 5)) E dX2_become_41 2 rfl rfl ?_
  refine z_iconst (v := (nI 0)) E dX2_become_44 (by decide) ?_
  refine z_aload_n E dX2_become_45 0 rfl rfl ?_
  refine gt_X2_15 (v := .ref (h 5)) E dX2_become_46 0 rfl rfl ?_
  refine z_iconst (v := (nI 0)) E dX2_become_49 (by decide) ?_
  refine z_bipush (v := (nI 12)) E dX2_become_50 (by decide) ?_
  refine z_copyN (f := (S.2 5)) (h := (T.2 5)) (ws' := wPres g a h (sA (sF (sF (sF (sF (sF T 0 (S.1 0)) 1 (S.1 1)) 2 (S.1 2)) 3 (S.1 3)) 4 (S.1 4)) 5 (va_cpy (S.2 5) (T.2 5) 0 0 12)) ++ wPres g b i S) E hX dX2_become_52 ml_X2_31 ac_words (Nat.le_of_ble_eq_true rfl) (Nat.le_of_ble_eq_true rfl) 3 1 rfl rfl (by decide) (by decide) (by decide) (by decide) rfl ?_
  refine z_arrN (f := (va_cpy (S.2 5) (T.2 5) 0 0 12)) (f' := (S.2 5)) (ws' := wPres g a h S ++ wPres g b i S) 1 rfl (fun j hj => cpy_all hj) rfl ?_
  refine z_vret E Er dX2_become_55 ?_
  exact ⟨rfl, rfl⟩
end
section
def nx10 (i : Nat) : Nat := if i + 1 < 10 then i + 1 else 0
def pv10 (i : Nat) : Nat := if 0 < i then i - 1 else 9

set_option maxHeartbeats 4000000 in
set_option maxRecDepth 100000 in
theorem c_X1_size (g : GC) (a : Nat) (h : Nat → Nat) (T : NS) (b : Nat → Nat) (j : Nat → Nat → Nat) (U : Nat → NS) : Ct g yX1_size cX1_size 1 (some .int) 0 0 0 [.ref a] (wPast g a h b j U T) (DI (nI (T.1 2)) (wPast g a h b j U T)) := by
  refine Ct.of (by decide) (Nat.le_of_ble_eq_true rfl) ?_
  intro X E Er hX _ hnm
  have E : Ob g X cX1_size 1 RX1 := E
  refine z_lve (lv' := [(0, .ref a)]) rfl ?_
  refine z_aload_n E dX1_size_0 0 rfl rfl ?_
  refine gt_X1_18 (v := .int (nI (T.1 2))) E dX1_size_1 0 rfl rfl ?_
  refine z_iret E Er dX1_size_4 ?_
  exact ⟨rfl, rfl⟩

set_option maxHeartbeats 4000000 in
set_option maxRecDepth 100000 in
theorem c_X1_lose (g : GC) (a : Nat) (h : Nat → Nat) (T : NS) (b : Nat → Nat) (j : Nat → Nat → Nat) (U : Nat → NS) : Ct g yX1_lose cX1_lose 1 none 0 0 0 [.ref a] (wPast g a h b j U T) (DV (wPast g a h b j U (sF T 2 0))) := by
  refine Ct.of (by decide) (Nat.le_of_ble_eq_true rfl) ?_
  intro X E Er hX _ hnm
  have E : Ob g X cX1_lose 1 RX1 := E
  refine z_lve (lv' := [(0, .ref a)]) rfl ?_
  refine z_aload_n E dX1_lose_0 0 rfl rfl ?_
  refine z_iconst (v := (nI 0)) E dX1_lose_1 (by decide) ?_
  refine pt_X1_18 (x := nI 0) (ws' := wPast g a h b j U (sF T 2 0)) E dX1_lose_2 0 rfl (Nat.le_of_ble_eq_true rfl) rfl ?_
  refine z_vret E Er dX1_lose_5 ?_
  exact ⟨rfl, rfl⟩

theorem l_rem {g : GC} {X : XC} {a : Nat} {h b : Nat → Nat} {j : Nat → Nat → Nat} {U : Nat → NS} {T : NS} {p : Nat} {q : Nat → Nat} {P : NS} (E : Ob g X cX1_remember 2 RX1) (hX : X.2.2.1 = zR 2 0 0) {lv : List (Nat × Value)} {rest : List Value} (h8 : (rest.map fun v => v.category).sum ≤ 8) (i : Nat) (hi : i < 10) (K : Z g X 2 0 0 (wPast g a h b j (va_up U i P) T ++ wPres g p q P) lv rest (10 + 3)) : Z g X 2 0 0 (wPast g a h b j U T ++ wPres g p q P) lv (.ref p :: .ref (b i) :: rest) 10 := by
  rcases (show i = 0 ∨ i = 1 ∨ i = 2 ∨ i = 3 ∨ i = 4 ∨ i = 5 ∨ i = 6 ∨ i = 7 ∨ i = 8 ∨ i = 9 by omega) with rfl | rfl | rfl | rfl | rfl | rfl | rfl | rfl | rfl | rfl
  · exact z_rwv (ws2 := wPast g a h b j (va_up U 0 P) T ++ wPres g p q P) E (rV E hX (c_X2_become g (b 0) (j 0) (U 0) p q P) mw_X2_become ml_X1_25 dX1_remember_10 (Nat.le_of_ble_eq_true rfl) ⟨(Nat.le_of_ble_eq_true rfl), (Nat.le_of_ble_eq_true rfl)⟩ rfl rfl h8 0 rfl rfl) [2, 3, 22, 23] rfl (by decide) rfl rfl K
  · exact z_rwv (ws2 := wPast g a h b j (va_up U 1 P) T ++ wPres g p q P) E (rV E hX (c_X2_become g (b 1) (j 1) (U 1) p q P) mw_X2_become ml_X1_25 dX1_remember_10 (Nat.le_of_ble_eq_true rfl) ⟨(Nat.le_of_ble_eq_true rfl), (Nat.le_of_ble_eq_true rfl)⟩ rfl rfl h8 0 rfl rfl) [4, 5, 22, 23] rfl (by decide) rfl rfl K
  · exact z_rwv (ws2 := wPast g a h b j (va_up U 2 P) T ++ wPres g p q P) E (rV E hX (c_X2_become g (b 2) (j 2) (U 2) p q P) mw_X2_become ml_X1_25 dX1_remember_10 (Nat.le_of_ble_eq_true rfl) ⟨(Nat.le_of_ble_eq_true rfl), (Nat.le_of_ble_eq_true rfl)⟩ rfl rfl h8 0 rfl rfl) [6, 7, 22, 23] rfl (by decide) rfl rfl K
  · exact z_rwv (ws2 := wPast g a h b j (va_up U 3 P) T ++ wPres g p q P) E (rV E hX (c_X2_become g (b 3) (j 3) (U 3) p q P) mw_X2_become ml_X1_25 dX1_remember_10 (Nat.le_of_ble_eq_true rfl) ⟨(Nat.le_of_ble_eq_true rfl), (Nat.le_of_ble_eq_true rfl)⟩ rfl rfl h8 0 rfl rfl) [8, 9, 22, 23] rfl (by decide) rfl rfl K
  · exact z_rwv (ws2 := wPast g a h b j (va_up U 4 P) T ++ wPres g p q P) E (rV E hX (c_X2_become g (b 4) (j 4) (U 4) p q P) mw_X2_become ml_X1_25 dX1_remember_10 (Nat.le_of_ble_eq_true rfl) ⟨(Nat.le_of_ble_eq_true rfl), (Nat.le_of_ble_eq_true rfl)⟩ rfl rfl h8 0 rfl rfl) [10, 11, 22, 23] rfl (by decide) rfl rfl K
  · exact z_rwv (ws2 := wPast g a h b j (va_up U 5 P) T ++ wPres g p q P) E (rV E hX (c_X2_become g (b 5) (j 5) (U 5) p q P) mw_X2_become ml_X1_25 dX1_remember_10 (Nat.le_of_ble_eq_true rfl) ⟨(Nat.le_of_ble_eq_true rfl), (Nat.le_of_ble_eq_true rfl)⟩ rfl rfl h8 0 rfl rfl) [12, 13, 22, 23] rfl (by decide) rfl rfl K
  · exact z_rwv (ws2 := wPast g a h b j (va_up U 6 P) T ++ wPres g p q P) E (rV E hX (c_X2_become g (b 6) (j 6) (U 6) p q P) mw_X2_become ml_X1_25 dX1_remember_10 (Nat.le_of_ble_eq_true rfl) ⟨(Nat.le_of_ble_eq_true rfl), (Nat.le_of_ble_eq_true rfl)⟩ rfl rfl h8 0 rfl rfl) [14, 15, 22, 23] rfl (by decide) rfl rfl K
  · exact z_rwv (ws2 := wPast g a h b j (va_up U 7 P) T ++ wPres g p q P) E (rV E hX (c_X2_become g (b 7) (j 7) (U 7) p q P) mw_X2_become ml_X1_25 dX1_remember_10 (Nat.le_of_ble_eq_true rfl) ⟨(Nat.le_of_ble_eq_true rfl), (Nat.le_of_ble_eq_true rfl)⟩ rfl rfl h8 0 rfl rfl) [16, 17, 22, 23] rfl (by decide) rfl rfl K
  · exact z_rwv (ws2 := wPast g a h b j (va_up U 8 P) T ++ wPres g p q P) E (rV E hX (c_X2_become g (b 8) (j 8) (U 8) p q P) mw_X2_become ml_X1_25 dX1_remember_10 (Nat.le_of_ble_eq_true rfl) ⟨(Nat.le_of_ble_eq_true rfl), (Nat.le_of_ble_eq_true rfl)⟩ rfl rfl h8 0 rfl rfl) [18, 19, 22, 23] rfl (by decide) rfl rfl K
  · exact z_rwv (ws2 := wPast g a h b j (va_up U 9 P) T ++ wPres g p q P) E (rV E hX (c_X2_become g (b 9) (j 9) (U 9) p q P) mw_X2_become ml_X1_25 dX1_remember_10 (Nat.le_of_ble_eq_true rfl) ⟨(Nat.le_of_ble_eq_true rfl), (Nat.le_of_ble_eq_true rfl)⟩ rfl rfl h8 0 rfl rfl) [20, 21, 22, 23] rfl (by decide) rfl rfl K

theorem l_res {g : GC} {X : XC} {a : Nat} {h b : Nat → Nat} {j : Nat → Nat → Nat} {U : Nat → NS} {T : NS} {p : Nat} {q : Nat → Nat} {P : NS} (E : Ob g X cX1_restore 2 RX1) (hX : X.2.2.1 = zR 2 0 0) {lv : List (Nat × Value)} {rest : List Value} (h8 : (rest.map fun v => v.category).sum ≤ 8) (i : Nat) (hi : i < 10) (K : Z g X 2 0 0 (wPast g a h b j U T ++ wPres g p q (U i)) lv rest (51 + 3)) : Z g X 2 0 0 (wPast g a h b j U T ++ wPres g p q P) lv (.ref (b i) :: .ref p :: rest) 51 := by
  rcases (show i = 0 ∨ i = 1 ∨ i = 2 ∨ i = 3 ∨ i = 4 ∨ i = 5 ∨ i = 6 ∨ i = 7 ∨ i = 8 ∨ i = 9 by omega) with rfl | rfl | rfl | rfl | rfl | rfl | rfl | rfl | rfl | rfl
  · exact z_rwv (ws2 := wPast g a h b j U T ++ wPres g p q (U 0)) E (rV E hX (c_X2_become g p q P (b 0) (j 0) (U 0)) mw_X2_become ml_X1_25 dX1_restore_51 (Nat.le_of_ble_eq_true rfl) ⟨(Nat.le_of_ble_eq_true rfl), (Nat.le_of_ble_eq_true rfl)⟩ rfl rfl h8 0 rfl rfl) [22, 23, 2, 3] rfl (by decide) rfl rfl K
  · exact z_rwv (ws2 := wPast g a h b j U T ++ wPres g p q (U 1)) E (rV E hX (c_X2_become g p q P (b 1) (j 1) (U 1)) mw_X2_become ml_X1_25 dX1_restore_51 (Nat.le_of_ble_eq_true rfl) ⟨(Nat.le_of_ble_eq_true rfl), (Nat.le_of_ble_eq_true rfl)⟩ rfl rfl h8 0 rfl rfl) [22, 23, 4, 5] rfl (by decide) rfl rfl K
  · exact z_rwv (ws2 := wPast g a h b j U T ++ wPres g p q (U 2)) E (rV E hX (c_X2_become g p q P (b 2) (j 2) (U 2)) mw_X2_become ml_X1_25 dX1_restore_51 (Nat.le_of_ble_eq_true rfl) ⟨(Nat.le_of_ble_eq_true rfl), (Nat.le_of_ble_eq_true rfl)⟩ rfl rfl h8 0 rfl rfl) [22, 23, 6, 7] rfl (by decide) rfl rfl K
  · exact z_rwv (ws2 := wPast g a h b j U T ++ wPres g p q (U 3)) E (rV E hX (c_X2_become g p q P (b 3) (j 3) (U 3)) mw_X2_become ml_X1_25 dX1_restore_51 (Nat.le_of_ble_eq_true rfl) ⟨(Nat.le_of_ble_eq_true rfl), (Nat.le_of_ble_eq_true rfl)⟩ rfl rfl h8 0 rfl rfl) [22, 23, 8, 9] rfl (by decide) rfl rfl K
  · exact z_rwv (ws2 := wPast g a h b j U T ++ wPres g p q (U 4)) E (rV E hX (c_X2_become g p q P (b 4) (j 4) (U 4)) mw_X2_become ml_X1_25 dX1_restore_51 (Nat.le_of_ble_eq_true rfl) ⟨(Nat.le_of_ble_eq_true rfl), (Nat.le_of_ble_eq_true rfl)⟩ rfl rfl h8 0 rfl rfl) [22, 23, 10, 11] rfl (by decide) rfl rfl K
  · exact z_rwv (ws2 := wPast g a h b j U T ++ wPres g p q (U 5)) E (rV E hX (c_X2_become g p q P (b 5) (j 5) (U 5)) mw_X2_become ml_X1_25 dX1_restore_51 (Nat.le_of_ble_eq_true rfl) ⟨(Nat.le_of_ble_eq_true rfl), (Nat.le_of_ble_eq_true rfl)⟩ rfl rfl h8 0 rfl rfl) [22, 23, 12, 13] rfl (by decide) rfl rfl K
  · exact z_rwv (ws2 := wPast g a h b j U T ++ wPres g p q (U 6)) E (rV E hX (c_X2_become g p q P (b 6) (j 6) (U 6)) mw_X2_become ml_X1_25 dX1_restore_51 (Nat.le_of_ble_eq_true rfl) ⟨(Nat.le_of_ble_eq_true rfl), (Nat.le_of_ble_eq_true rfl)⟩ rfl rfl h8 0 rfl rfl) [22, 23, 14, 15] rfl (by decide) rfl rfl K
  · exact z_rwv (ws2 := wPast g a h b j U T ++ wPres g p q (U 7)) E (rV E hX (c_X2_become g p q P (b 7) (j 7) (U 7)) mw_X2_become ml_X1_25 dX1_restore_51 (Nat.le_of_ble_eq_true rfl) ⟨(Nat.le_of_ble_eq_true rfl), (Nat.le_of_ble_eq_true rfl)⟩ rfl rfl h8 0 rfl rfl) [22, 23, 16, 17] rfl (by decide) rfl rfl K
  · exact z_rwv (ws2 := wPast g a h b j U T ++ wPres g p q (U 8)) E (rV E hX (c_X2_become g p q P (b 8) (j 8) (U 8)) mw_X2_become ml_X1_25 dX1_restore_51 (Nat.le_of_ble_eq_true rfl) ⟨(Nat.le_of_ble_eq_true rfl), (Nat.le_of_ble_eq_true rfl)⟩ rfl rfl h8 0 rfl rfl) [22, 23, 18, 19] rfl (by decide) rfl rfl K
  · exact z_rwv (ws2 := wPast g a h b j U T ++ wPres g p q (U 9)) E (rV E hX (c_X2_become g p q P (b 9) (j 9) (U 9)) mw_X2_become ml_X1_25 dX1_restore_51 (Nat.le_of_ble_eq_true rfl) ⟨(Nat.le_of_ble_eq_true rfl), (Nat.le_of_ble_eq_true rfl)⟩ rfl rfl h8 0 rfl rfl) [22, 23, 20, 21] rfl (by decide) rfl rfl K

set_option maxHeartbeats 4000000 in
set_option maxRecDepth 100000 in
theorem c_X1_remember (g : GC) (a : Nat) (h : Nat → Nat) (T : NS) (b : Nat → Nat) (j : Nat → Nat → Nat) (U : Nat → NS) (p : Nat) (q : Nat → Nat) (P : NS) (h1 : T.1 1 < 10) (h2 : T.1 2 ≤ 10) : Ct g yX1_remember cX1_remember 2 none 2 0 0 [.ref a, .ref p] (wPast g a h b j U T ++ wPres g p q P) (DV (wPast g a h b j (va_up U (T.1 1) P) (sF (sF T 1 (nx10 (T.1 1))) 2 (min (T.1 2 + 1) 10)) ++ wPres g p q P)) := by
  refine Ct.of (by decide) (Nat.le_of_ble_eq_true rfl) ?_
  intro X E Er hX _ hnm
  have E : Ob g X cX1_remember 2 RX1 := E
  refine z_lve (lv' := [(0, .ref a), (1, .ref p)]) rfl ?_
  refine z_aload_n E dX1_remember_0 0 rfl rfl ?_
  refine gt_X1_11 (v := .ref (h 0)) E dX1_remember_1 0 rfl rfl ?_
  refine z_aload_n E dX1_remember_4 0 rfl rfl ?_
  refine gt_X1_22 (v := .int (nI (T.1 1))) E dX1_remember_5 0 rfl rfl ?_
  refine z_aaldN (b := b) E dX1_remember_8 1 rfl (by omega) (by decide) ?_
  refine z_aload_n E dX1_remember_9 1 rfl rfl ?_
  refine l_rem E hX (Nat.le_of_ble_eq_true rfl) (T.1 1) h1 ?_
  refine z_aload_n E dX1_remember_13 0 rfl rfl ?_
  refine z_aload_n E dX1_remember_14 0 rfl rfl ?_
  refine gt_X1_22 (v := .int (nI (T.1 1))) E dX1_remember_15 0 rfl rfl ?_
  refine z_iconst (v := (nI 1)) E dX1_remember_18 (by decide) ?_
  refine z_iaddN E dX1_remember_19 ?_
  refine z_bipush (v := (nI 10)) E dX1_remember_20 (by decide) ?_
  refine z_icmpN_ge E dX1_remember_22 34 (by decide) (by omega) (by decide) (fun c1 => ?_) (fun c1 => ?_)
  · refine z_iconst (v := (nI 0)) E dX1_remember_34 (by decide) ?_
    refine pt_X1_22 (x := nI 0) (ws' := wPast g a h b j (va_up U (T.1 1) P) (sF T 1 0) ++ wPres g p q P) E dX1_remember_35 0 rfl (Nat.le_of_ble_eq_true rfl) rfl ?_
    refine z_aload_n E dX1_remember_38 0 rfl rfl ?_
    refine z_aload_n E dX1_remember_39 0 rfl rfl ?_
    refine gt_X1_18 (v := .int (nI (T.1 2))) E dX1_remember_40 0 rfl rfl ?_
    refine z_iconst (v := (nI 1)) E dX1_remember_43 (by decide) ?_
    refine z_iaddN E dX1_remember_44 ?_
    refine z_bipush (v := (nI 10)) E dX1_remember_45 (by decide) ?_
    refine z_minN E hX dX1_remember_47 ml_X1_29 (Nat.le_of_ble_eq_true rfl) (Nat.le_of_ble_eq_true rfl) ⟨(Nat.le_of_ble_eq_true rfl), (Nat.le_of_ble_eq_true rfl)⟩ (by omega) (by decide) ?_
    refine pt_X1_18 (x := nI (min ((T.1 2) + 1) 10)) (ws' := wPast g a h b j (va_up U (T.1 1) P) (sF (sF T 1 0) 2 (min ((T.1 2) + 1) 10)) ++ wPres g p q P) E dX1_remember_50 0 rfl (Nat.le_of_ble_eq_true rfl) rfl ?_
    refine z_vret E Er dX1_remember_53 ?_
    exact ⟨rfl, by rw [show nx10 (T.1 1) = 0 from by unfold nx10; split <;> omega]⟩
  · refine z_aload_n E dX1_remember_25 0 rfl rfl ?_
    refine gt_X1_22 (v := .int (nI (T.1 1))) E dX1_remember_26 0 rfl rfl ?_
    refine z_iconst (v := (nI 1)) E dX1_remember_29 (by decide) ?_
    refine z_iaddN E dX1_remember_30 ?_
    refine z_goto E dX1_remember_31 35 (by decide) ?_
    refine pt_X1_22 (x := nI ((T.1 1) + 1)) (ws' := wPast g a h b j (va_up U (T.1 1) P) (sF T 1 ((T.1 1) + 1)) ++ wPres g p q P) E dX1_remember_35 0 rfl (Nat.le_of_ble_eq_true rfl) rfl ?_
    refine z_aload_n E dX1_remember_38 0 rfl rfl ?_
    refine z_aload_n E dX1_remember_39 0 rfl rfl ?_
    refine gt_X1_18 (v := .int (nI (T.1 2))) E dX1_remember_40 0 rfl rfl ?_
    refine z_iconst (v := (nI 1)) E dX1_remember_43 (by decide) ?_
    refine z_iaddN E dX1_remember_44 ?_
    refine z_bipush (v := (nI 10)) E dX1_remember_45 (by decide) ?_
    refine z_minN E hX dX1_remember_47 ml_X1_29 (Nat.le_of_ble_eq_true rfl) (Nat.le_of_ble_eq_true rfl) ⟨(Nat.le_of_ble_eq_true rfl), (Nat.le_of_ble_eq_true rfl)⟩ (by omega) (by decide) ?_
    refine pt_X1_18 (x := nI (min ((T.1 2) + 1) 10)) (ws' := wPast g a h b j (va_up U (T.1 1) P) (sF (sF T 1 ((T.1 1) + 1)) 2 (min ((T.1 2) + 1) 10)) ++ wPres g p q P) E dX1_remember_50 0 rfl (Nat.le_of_ble_eq_true rfl) rfl ?_
    refine z_vret E Er dX1_remember_53 ?_
    exact ⟨rfl, by rw [show nx10 (T.1 1) = ((T.1 1) + 1) from by unfold nx10; split <;> omega]⟩

set_option maxHeartbeats 4000000 in
set_option maxRecDepth 100000 in
theorem c_X1_restore (g : GC) (a : Nat) (h : Nat → Nat) (T : NS) (b : Nat → Nat) (j : Nat → Nat → Nat) (U : Nat → NS) (p : Nat) (q : Nat → Nat) (P : NS) (h1 : T.1 1 < 10) (h2 : T.1 2 ≤ 10) : Ct g yX1_restore cX1_restore 2 (some .boolean) 2 0 0 [.ref a, .ref p] (wPast g a h b j U T ++ wPres g p q P) (DI (bI (decide (T.1 2 ≠ 0))) (wPast g a h b j U (if T.1 2 = 0 then T else sF (sF T 1 (pv10 (T.1 1))) 2 (T.1 2 - 1)) ++ wPres g p q (if T.1 2 = 0 then P else U (pv10 (T.1 1))))) := by
  refine Ct.of (by decide) (Nat.le_of_ble_eq_true rfl) ?_
  intro X E Er hX _ hnm
  have E : Ob g X cX1_restore 2 RX1 := E
  refine z_lve (lv' := [(0, .ref a), (1, .ref p)]) rfl ?_
  refine z_aload_n E dX1_restore_0 0 rfl rfl ?_
  refine gt_X1_18 (v := .int (nI (T.1 2))) E dX1_restore_1 0 rfl rfl ?_
  refine z_ifN_ne E dX1_restore_4 9 (by decide) (by omega) (fun c1 => ?_) (fun c1 => ?_)
  · refine z_aload_n E dX1_restore_9 0 rfl rfl ?_
    refine z_aload_n E dX1_restore_10 0 rfl rfl ?_
    refine gt_X1_22 (v := .int (nI (T.1 1))) E dX1_restore_11 0 rfl rfl ?_
    refine z_ifN_le E dX1_restore_14 26 (by decide) (by omega) (fun c2 => ?_) (fun c2 => ?_)
    · refine z_bipush (v := (nI 9)) E dX1_restore_26 (by decide) ?_
      refine pt_X1_22 (x := nI 9) (ws' := wPast g a h b j U (sF T 1 9) ++ wPres g p q P) E dX1_restore_28 0 rfl (Nat.le_of_ble_eq_true rfl) rfl ?_
      refine z_aload_n E dX1_restore_31 0 rfl rfl ?_
      refine z_dup E dX1_restore_32 rfl ?_
      refine gt_X1_18 (v := .int (nI (T.1 2))) E dX1_restore_33 0 rfl rfl ?_
      refine z_iconst (v := (nI 1)) E dX1_restore_36 (by decide) ?_
      refine z_isubN E dX1_restore_37 (by omega) ?_
      refine pt_X1_18 (x := nI ((T.1 2) - 1)) (ws' := wPast g a h b j U (sF (sF T 1 9) 2 ((T.1 2) - 1)) ++ wPres g p q P) E dX1_restore_38 0 rfl (Nat.le_of_ble_eq_true rfl) rfl ?_
      refine z_aload_n E dX1_restore_41 1 rfl rfl ?_
      refine z_aload_n E dX1_restore_42 0 rfl rfl ?_
      refine gt_X1_11 (v := .ref (h 0)) E dX1_restore_43 0 rfl rfl ?_
      refine z_aload_n E dX1_restore_46 0 rfl rfl ?_
      refine gt_X1_22 (v := .int (nI 9)) E dX1_restore_47 0 rfl rfl ?_
      refine z_aaldN (b := b) E dX1_restore_50 1 rfl (by decide) (by decide) ?_
      refine l_res E hX (Nat.le_of_ble_eq_true rfl) 9 (by omega) ?_
      refine z_iconst (v := (nI 1)) E dX1_restore_54 (by decide) ?_
      refine z_zret E Er dX1_restore_55 (by decide) ?_
      exact ⟨bz1 (by simp [c1]), by rw [if_neg c1, if_neg c1, show pv10 (T.1 1) = 9 from by unfold pv10; split <;> omega]⟩
    · refine z_aload_n E dX1_restore_17 0 rfl rfl ?_
      refine gt_X1_22 (v := .int (nI (T.1 1))) E dX1_restore_18 0 rfl rfl ?_
      refine z_iconst (v := (nI 1)) E dX1_restore_21 (by decide) ?_
      refine z_isubN E dX1_restore_22 (by omega) ?_
      refine z_goto E dX1_restore_23 28 (by decide) ?_
      refine pt_X1_22 (x := nI ((T.1 1) - 1)) (ws' := wPast g a h b j U (sF T 1 ((T.1 1) - 1)) ++ wPres g p q P) E dX1_restore_28 0 rfl (Nat.le_of_ble_eq_true rfl) rfl ?_
      refine z_aload_n E dX1_restore_31 0 rfl rfl ?_
      refine z_dup E dX1_restore_32 rfl ?_
      refine gt_X1_18 (v := .int (nI (T.1 2))) E dX1_restore_33 0 rfl rfl ?_
      refine z_iconst (v := (nI 1)) E dX1_restore_36 (by decide) ?_
      refine z_isubN E dX1_restore_37 (by omega) ?_
      refine pt_X1_18 (x := nI ((T.1 2) - 1)) (ws' := wPast g a h b j U (sF (sF T 1 ((T.1 1) - 1)) 2 ((T.1 2) - 1)) ++ wPres g p q P) E dX1_restore_38 0 rfl (Nat.le_of_ble_eq_true rfl) rfl ?_
      refine z_aload_n E dX1_restore_41 1 rfl rfl ?_
      refine z_aload_n E dX1_restore_42 0 rfl rfl ?_
      refine gt_X1_11 (v := .ref (h 0)) E dX1_restore_43 0 rfl rfl ?_
      refine z_aload_n E dX1_restore_46 0 rfl rfl ?_
      refine gt_X1_22 (v := .int (nI ((T.1 1) - 1))) E dX1_restore_47 0 rfl rfl ?_
      refine z_aaldN (b := b) E dX1_restore_50 1 rfl (by omega) (by decide) ?_
      refine l_res E hX (Nat.le_of_ble_eq_true rfl) ((T.1 1) - 1) (by omega) ?_
      refine z_iconst (v := (nI 1)) E dX1_restore_54 (by decide) ?_
      refine z_zret E Er dX1_restore_55 (by decide) ?_
      exact ⟨bz1 (by simp [c1]), by rw [if_neg c1, if_neg c1, show pv10 (T.1 1) = ((T.1 1) - 1) from by unfold pv10; split <;> omega]⟩
  · refine z_iconst (v := (nI 0)) E dX1_restore_7 (by decide) ?_
    refine z_zret E Er dX1_restore_8 (by decide) ?_
    exact ⟨bz0 (by simp [c1]), by rw [if_pos c1, if_pos c1]⟩
end
