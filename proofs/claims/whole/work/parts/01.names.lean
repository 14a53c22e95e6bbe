-- ===== PART A: goes FIRST, ahead of the names: the tables' words, and 'selects' of the private methods out of them =====
/-- a private method of a class that the tables say can be made, by its rows of tables_1 -/
def lw_okq (q : MethodName × Nat) : Prop := (q.1.cls ≠ "java/lang/invoke/MethodHandle" ∧ q.1.cls ≠ "java/lang/invoke/VarHandle") ∧ Cond.instantiable q.1.cls q.2 ∈ tables_1 ∧ Cond.privateMethod q.1 ∈ tables_1 ∧ Cond.instanceMethod q.1 ∈ tables_1
theorem lw_p0 : lw_okq (⟨"PuddingHobs", "found", "(I)I"⟩, 9) := ⟨⟨by decide +kernel, by decide +kernel⟩, List.mem_of_getElem? (i := 14) (by decide +kernel), List.mem_of_getElem? (i := 235) (by decide +kernel), List.mem_of_getElem? (i := 236) (by decide +kernel)⟩
theorem lw_p1 : lw_okq (⟨"PuddingHobs", "unfound", "(I)I"⟩, 9) := ⟨⟨by decide +kernel, by decide +kernel⟩, List.mem_of_getElem? (i := 14) (by decide +kernel), List.mem_of_getElem? (i := 247) (by decide +kernel), List.mem_of_getElem? (i := 248) (by decide +kernel)⟩
theorem lw_p2 : lw_okq (⟨"PuddingHobs$Tape", "readLaw", "(LPuddingHobs$Hob;)Z"⟩, 7) := ⟨⟨by decide +kernel, by decide +kernel⟩, List.mem_of_getElem? (i := 39) (by decide +kernel), List.mem_of_getElem? (i := 318) (by decide +kernel), List.mem_of_getElem? (i := 319) (by decide +kernel)⟩
theorem lw_p3 : lw_okq (⟨"PuddingHobs$Tape", "byteHere", "()I"⟩, 7) := ⟨⟨by decide +kernel, by decide +kernel⟩, List.mem_of_getElem? (i := 39) (by decide +kernel), List.mem_of_getElem? (i := 322) (by decide +kernel), List.mem_of_getElem? (i := 323) (by decide +kernel)⟩
theorem lw_p4 : lw_okq (⟨"PuddingHobs$Tape", "faultHere", "(I)Z"⟩, 7) := ⟨⟨by decide +kernel, by decide +kernel⟩, List.mem_of_getElem? (i := 39) (by decide +kernel), List.mem_of_getElem? (i := 326) (by decide +kernel), List.mem_of_getElem? (i := 327) (by decide +kernel)⟩
theorem lw_p5 : lw_okq (⟨"PuddingHobs$Tape", "readPair", "(III)Z"⟩, 7) := ⟨⟨by decide +kernel, by decide +kernel⟩, List.mem_of_getElem? (i := 39) (by decide +kernel), List.mem_of_getElem? (i := 330) (by decide +kernel), List.mem_of_getElem? (i := 331) (by decide +kernel)⟩
theorem lw_p6 : lw_okq (⟨"PuddingHobs$Tape", "readNumber", "(II)Z"⟩, 7) := ⟨⟨by decide +kernel, by decide +kernel⟩, List.mem_of_getElem? (i := 39) (by decide +kernel), List.mem_of_getElem? (i := 334) (by decide +kernel), List.mem_of_getElem? (i := 335) (by decide +kernel)⟩
theorem lw_p7 : lw_okq (⟨"PuddingHobs$Tape", "figuresHere", "()I"⟩, 7) := ⟨⟨by decide +kernel, by decide +kernel⟩, List.mem_of_getElem? (i := 39) (by decide +kernel), List.mem_of_getElem? (i := 338) (by decide +kernel), List.mem_of_getElem? (i := 339) (by decide +kernel)⟩
theorem lw_p8 : lw_okq (⟨"PuddingHobs$Tape", "readSign", "(I)Z"⟩, 7) := ⟨⟨by decide +kernel, by decide +kernel⟩, List.mem_of_getElem? (i := 39) (by decide +kernel), List.mem_of_getElem? (i := 342) (by decide +kernel), List.mem_of_getElem? (i := 343) (by decide +kernel)⟩
theorem lw_p9 : lw_okq (⟨"PuddingHobs$Tape", "readBasin", "(LPuddingHobs$Hob;)Z"⟩, 7) := ⟨⟨by decide +kernel, by decide +kernel⟩, List.mem_of_getElem? (i := 39) (by decide +kernel), List.mem_of_getElem? (i := 346) (by decide +kernel), List.mem_of_getElem? (i := 347) (by decide +kernel)⟩
theorem lw_p10 : lw_okq (⟨"PuddingHobs$Tape", "sortHere", "()I"⟩, 7) := ⟨⟨by decide +kernel, by decide +kernel⟩, List.mem_of_getElem? (i := 39) (by decide +kernel), List.mem_of_getElem? (i := 350) (by decide +kernel), List.mem_of_getElem? (i := 351) (by decide +kernel)⟩
theorem lw_p11 : lw_okq (⟨"PuddingHobs$Hob", "isStirred", "(I)Z"⟩, 11) := ⟨⟨by decide +kernel, by decide +kernel⟩, List.mem_of_getElem? (i := 67) (by decide +kernel), List.mem_of_getElem? (i := 423) (by decide +kernel), List.mem_of_getElem? (i := 424) (by decide +kernel)⟩
theorem lw_p12 : lw_okq (⟨"PuddingHobs$Hob", "raise", "(II)V"⟩, 11) := ⟨⟨by decide +kernel, by decide +kernel⟩, List.mem_of_getElem? (i := 67) (by decide +kernel), List.mem_of_getElem? (i := 427) (by decide +kernel), List.mem_of_getElem? (i := 428) (by decide +kernel)⟩
theorem lw_p13 : lw_okq (⟨"PuddingHobs$Hob", "aboveCloth", "()I"⟩, 11) := ⟨⟨by decide +kernel, by decide +kernel⟩, List.mem_of_getElem? (i := 67) (by decide +kernel), List.mem_of_getElem? (i := 432) (by decide +kernel), List.mem_of_getElem? (i := 433) (by decide +kernel)⟩
theorem lw_p14 : lw_okq (⟨"PuddingHobs$Hob", "pushNeighbours", "(I)V"⟩, 11) := ⟨⟨by decide +kernel, by decide +kernel⟩, List.mem_of_getElem? (i := 67) (by decide +kernel), List.mem_of_getElem? (i := 436) (by decide +kernel), List.mem_of_getElem? (i := 437) (by decide +kernel)⟩
theorem lw_p15 : lw_okq (⟨"PuddingHobs$Hob", "placesOf", "(I)I"⟩, 11) := ⟨⟨by decide +kernel, by decide +kernel⟩, List.mem_of_getElem? (i := 67) (by decide +kernel), List.mem_of_getElem? (i := 440) (by decide +kernel), List.mem_of_getElem? (i := 441) (by decide +kernel)⟩
def lw_privs_1 : List (MethodName × Nat) := [(⟨"PuddingHobs", "found", "(I)I"⟩, 9), (⟨"PuddingHobs", "unfound", "(I)I"⟩, 9), (⟨"PuddingHobs$Tape", "readLaw", "(LPuddingHobs$Hob;)Z"⟩, 7), (⟨"PuddingHobs$Tape", "byteHere", "()I"⟩, 7), (⟨"PuddingHobs$Tape", "faultHere", "(I)Z"⟩, 7), (⟨"PuddingHobs$Tape", "readPair", "(III)Z"⟩, 7), (⟨"PuddingHobs$Tape", "readNumber", "(II)Z"⟩, 7), (⟨"PuddingHobs$Tape", "figuresHere", "()I"⟩, 7), (⟨"PuddingHobs$Tape", "readSign", "(I)Z"⟩, 7), (⟨"PuddingHobs$Tape", "readBasin", "(LPuddingHobs$Hob;)Z"⟩, 7), (⟨"PuddingHobs$Tape", "sortHere", "()I"⟩, 7), (⟨"PuddingHobs$Hob", "isStirred", "(I)Z"⟩, 11), (⟨"PuddingHobs$Hob", "raise", "(II)V"⟩, 11), (⟨"PuddingHobs$Hob", "aboveCloth", "()I"⟩, 11), (⟨"PuddingHobs$Hob", "pushNeighbours", "(I)V"⟩, 11), (⟨"PuddingHobs$Hob", "placesOf", "(I)I"⟩, 11)]
theorem lw_r1 : ∀ q ∈ lw_privs_1, lw_okq q := List.forall_mem_cons.mpr ⟨lw_p0, List.forall_mem_cons.mpr ⟨lw_p1, List.forall_mem_cons.mpr ⟨lw_p2, List.forall_mem_cons.mpr ⟨lw_p3, List.forall_mem_cons.mpr ⟨lw_p4, List.forall_mem_cons.mpr ⟨lw_p5, List.forall_mem_cons.mpr ⟨lw_p6, List.forall_mem_cons.mpr ⟨lw_p7, List.forall_mem_cons.mpr ⟨lw_p8, List.forall_mem_cons.mpr ⟨lw_p9, List.forall_mem_cons.mpr ⟨lw_p10, List.forall_mem_cons.mpr ⟨lw_p11, List.forall_mem_cons.mpr ⟨lw_p12, List.forall_mem_cons.mpr ⟨lw_p13, List.forall_mem_cons.mpr ⟨lw_p14, List.forall_mem_cons.mpr ⟨lw_p15, fun _ h => absurd h List.not_mem_nil⟩⟩⟩⟩⟩⟩⟩⟩⟩⟩⟩⟩⟩⟩⟩⟩
theorem lw_p16 : lw_okq (⟨"PuddingHobs$Foresight", "beginTrial", "()V"⟩, 3) := ⟨⟨by decide +kernel, by decide +kernel⟩, List.mem_of_getElem? (i := 161) (by decide +kernel), List.mem_of_getElem? (i := 526) (by decide +kernel), List.mem_of_getElem? (i := 527) (by decide +kernel)⟩
theorem lw_p17 : lw_okq (⟨"PuddingHobs$Foresight", "boilTrial", "(I)V"⟩, 3) := ⟨⟨by decide +kernel, by decide +kernel⟩, List.mem_of_getElem? (i := 161) (by decide +kernel), List.mem_of_getElem? (i := 531) (by decide +kernel), List.mem_of_getElem? (i := 532) (by decide +kernel)⟩
theorem lw_p18 : lw_okq (⟨"PuddingHobs$Foresight", "trialBursts", "(II)Z"⟩, 3) := ⟨⟨by decide +kernel, by decide +kernel⟩, List.mem_of_getElem? (i := 161) (by decide +kernel), List.mem_of_getElem? (i := 578) (by decide +kernel), List.mem_of_getElem? (i := 579) (by decide +kernel)⟩
theorem lw_p19 : lw_okq (⟨"PuddingHobs$Foresight", "trialBurstsNone", "(I)Z"⟩, 3) := ⟨⟨by decide +kernel, by decide +kernel⟩, List.mem_of_getElem? (i := 161) (by decide +kernel), List.mem_of_getElem? (i := 591) (by decide +kernel), List.mem_of_getElem? (i := 592) (by decide +kernel)⟩
theorem lw_p20 : lw_okq (⟨"PuddingHobs$Hob", "plumsTogether", "()I"⟩, 11) := ⟨⟨by decide +kernel, by decide +kernel⟩, List.mem_of_getElem? (i := 67) (by decide +kernel), List.mem_of_getElem? (i := 622) (by decide +kernel), List.mem_of_getElem? (i := 623) (by decide +kernel)⟩
theorem lw_p21 : lw_okq (⟨"PuddingHobs$Foresight", "alterTrial", "(III)V"⟩, 3) := ⟨⟨by decide +kernel, by decide +kernel⟩, List.mem_of_getElem? (i := 161) (by decide +kernel), List.mem_of_getElem? (i := 642) (by decide +kernel), List.mem_of_getElem? (i := 643) (by decide +kernel)⟩
theorem lw_p22 : lw_okq (⟨"PuddingHobs$Foresight", "trialIsAsTold", "(II)Z"⟩, 3) := ⟨⟨by decide +kernel, by decide +kernel⟩, List.mem_of_getElem? (i := 161) (by decide +kernel), List.mem_of_getElem? (i := 646) (by decide +kernel), List.mem_of_getElem? (i := 647) (by decide +kernel)⟩
theorem lw_p23 : lw_okq (⟨"PuddingHobs$Foresight", "weightOf", "(II)I"⟩, 3) := ⟨⟨by decide +kernel, by decide +kernel⟩, List.mem_of_getElem? (i := 161) (by decide +kernel), List.mem_of_getElem? (i := 658) (by decide +kernel), List.mem_of_getElem? (i := 659) (by decide +kernel)⟩
theorem lw_p24 : lw_okq (⟨"PuddingHobs$Foresight", "burstsWithMice", "(III)Z"⟩, 3) := ⟨⟨by decide +kernel, by decide +kernel⟩, List.mem_of_getElem? (i := 161) (by decide +kernel), List.mem_of_getElem? (i := 662) (by decide +kernel), List.mem_of_getElem? (i := 663) (by decide +kernel)⟩
theorem lw_p25 : lw_okq (⟨"PuddingHobs$Foresight", "meddle", "(J)V"⟩, 3) := ⟨⟨by decide +kernel, by decide +kernel⟩, List.mem_of_getElem? (i := 161) (by decide +kernel), List.mem_of_getElem? (i := 682) (by decide +kernel), List.mem_of_getElem? (i := 683) (by decide +kernel)⟩
theorem lw_p26 : lw_okq (⟨"PuddingHobs$Asks", "bodyOf", "(II)I"⟩, 3) := ⟨⟨by decide +kernel, by decide +kernel⟩, List.mem_of_getElem? (i := 180) (by decide +kernel), List.mem_of_getElem? (i := 736) (by decide +kernel), List.mem_of_getElem? (i := 737) (by decide +kernel)⟩
theorem lw_p27 : lw_okq (⟨"PuddingHobs$Asks", "begin", "(III)I"⟩, 3) := ⟨⟨by decide +kernel, by decide +kernel⟩, List.mem_of_getElem? (i := 180) (by decide +kernel), List.mem_of_getElem? (i := 744) (by decide +kernel), List.mem_of_getElem? (i := 745) (by decide +kernel)⟩
theorem lw_p28 : lw_okq (⟨"PuddingHobs$Asks", "leave", "(I)V"⟩, 3) := ⟨⟨by decide +kernel, by decide +kernel⟩, List.mem_of_getElem? (i := 180) (by decide +kernel), List.mem_of_getElem? (i := 748) (by decide +kernel), List.mem_of_getElem? (i := 749) (by decide +kernel)⟩
theorem lw_p29 : lw_okq (⟨"PuddingHobsModel", "found", "(I)I"⟩, 22) := ⟨⟨by decide +kernel, by decide +kernel⟩, List.mem_of_getElem? (i := 774) (by decide +kernel), List.mem_of_getElem? (i := 860) (by decide +kernel), List.mem_of_getElem? (i := 861) (by decide +kernel)⟩
theorem lw_p30 : lw_okq (⟨"PuddingHobsModel", "well", "(I)I"⟩, 22) := ⟨⟨by decide +kernel, by decide +kernel⟩, List.mem_of_getElem? (i := 774) (by decide +kernel), List.mem_of_getElem? (i := 865) (by decide +kernel), List.mem_of_getElem? (i := 866) (by decide +kernel)⟩
theorem lw_p31 : lw_okq (⟨"PuddingHobsModel", "isMissing", "(I)Z"⟩, 22) := ⟨⟨by decide +kernel, by decide +kernel⟩, List.mem_of_getElem? (i := 774) (by decide +kernel), List.mem_of_getElem? (i := 873) (by decide +kernel), List.mem_of_getElem? (i := 874) (by decide +kernel)⟩
def lw_privs_2 : List (MethodName × Nat) := [(⟨"PuddingHobs$Foresight", "beginTrial", "()V"⟩, 3), (⟨"PuddingHobs$Foresight", "boilTrial", "(I)V"⟩, 3), (⟨"PuddingHobs$Foresight", "trialBursts", "(II)Z"⟩, 3), (⟨"PuddingHobs$Foresight", "trialBurstsNone", "(I)Z"⟩, 3), (⟨"PuddingHobs$Hob", "plumsTogether", "()I"⟩, 11), (⟨"PuddingHobs$Foresight", "alterTrial", "(III)V"⟩, 3), (⟨"PuddingHobs$Foresight", "trialIsAsTold", "(II)Z"⟩, 3), (⟨"PuddingHobs$Foresight", "weightOf", "(II)I"⟩, 3), (⟨"PuddingHobs$Foresight", "burstsWithMice", "(III)Z"⟩, 3), (⟨"PuddingHobs$Foresight", "meddle", "(J)V"⟩, 3), (⟨"PuddingHobs$Asks", "bodyOf", "(II)I"⟩, 3), (⟨"PuddingHobs$Asks", "begin", "(III)I"⟩, 3), (⟨"PuddingHobs$Asks", "leave", "(I)V"⟩, 3), (⟨"PuddingHobsModel", "found", "(I)I"⟩, 22), (⟨"PuddingHobsModel", "well", "(I)I"⟩, 22), (⟨"PuddingHobsModel", "isMissing", "(I)Z"⟩, 22)]
theorem lw_r2 : ∀ q ∈ lw_privs_2, lw_okq q := List.forall_mem_cons.mpr ⟨lw_p16, List.forall_mem_cons.mpr ⟨lw_p17, List.forall_mem_cons.mpr ⟨lw_p18, List.forall_mem_cons.mpr ⟨lw_p19, List.forall_mem_cons.mpr ⟨lw_p20, List.forall_mem_cons.mpr ⟨lw_p21, List.forall_mem_cons.mpr ⟨lw_p22, List.forall_mem_cons.mpr ⟨lw_p23, List.forall_mem_cons.mpr ⟨lw_p24, List.forall_mem_cons.mpr ⟨lw_p25, List.forall_mem_cons.mpr ⟨lw_p26, List.forall_mem_cons.mpr ⟨lw_p27, List.forall_mem_cons.mpr ⟨lw_p28, List.forall_mem_cons.mpr ⟨lw_p29, List.forall_mem_cons.mpr ⟨lw_p30, List.forall_mem_cons.mpr ⟨lw_p31, fun _ h => absurd h List.not_mem_nil⟩⟩⟩⟩⟩⟩⟩⟩⟩⟩⟩⟩⟩⟩⟩⟩
theorem lw_p32 : lw_okq (⟨"PuddingHobsModel", "isPart", "(III)Z"⟩, 22) := ⟨⟨by decide +kernel, by decide +kernel⟩, List.mem_of_getElem? (i := 774) (by decide +kernel), List.mem_of_getElem? (i := 884) (by decide +kernel), List.mem_of_getElem? (i := 885) (by decide +kernel)⟩
theorem lw_p33 : lw_okq (⟨"PuddingHobsModel", "advances", "()V"⟩, 22) := ⟨⟨by decide +kernel, by decide +kernel⟩, List.mem_of_getElem? (i := 774) (by decide +kernel), List.mem_of_getElem? (i := 901) (by decide +kernel), List.mem_of_getElem? (i := 902) (by decide +kernel)⟩
theorem lw_p34 : lw_okq (⟨"PuddingHobsModel", "byteAt", "(I)I"⟩, 22) := ⟨⟨by decide +kernel, by decide +kernel⟩, List.mem_of_getElem? (i := 774) (by decide +kernel), List.mem_of_getElem? (i := 905) (by decide +kernel), List.mem_of_getElem? (i := 906) (by decide +kernel)⟩
theorem lw_p35 : lw_okq (⟨"PuddingHobsModel", "takes", "(ZI)I"⟩, 22) := ⟨⟨by decide +kernel, by decide +kernel⟩, List.mem_of_getElem? (i := 774) (by decide +kernel), List.mem_of_getElem? (i := 909) (by decide +kernel), List.mem_of_getElem? (i := 910) (by decide +kernel)⟩
theorem lw_p36 : lw_okq (⟨"PuddingHobsModel", "isWell", "()Z"⟩, 22) := ⟨⟨by decide +kernel, by decide +kernel⟩, List.mem_of_getElem? (i := 774) (by decide +kernel), List.mem_of_getElem? (i := 913) (by decide +kernel), List.mem_of_getElem? (i := 914) (by decide +kernel)⟩
theorem lw_p37 : lw_okq (⟨"PuddingHobsModel", "figure", "(II)I"⟩, 22) := ⟨⟨by decide +kernel, by decide +kernel⟩, List.mem_of_getElem? (i := 774) (by decide +kernel), List.mem_of_getElem? (i := 917) (by decide +kernel), List.mem_of_getElem? (i := 918) (by decide +kernel)⟩
theorem lw_p38 : lw_okq (⟨"PuddingHobsModel", "follows", "(II)I"⟩, 22) := ⟨⟨by decide +kernel, by decide +kernel⟩, List.mem_of_getElem? (i := 774) (by decide +kernel), List.mem_of_getElem? (i := 921) (by decide +kernel), List.mem_of_getElem? (i := 922) (by decide +kernel)⟩
theorem lw_p39 : lw_okq (⟨"PuddingHobsModel", "must", "(Z)V"⟩, 22) := ⟨⟨by decide +kernel, by decide +kernel⟩, List.mem_of_getElem? (i := 774) (by decide +kernel), List.mem_of_getElem? (i := 928) (by decide +kernel), List.mem_of_getElem? (i := 929) (by decide +kernel)⟩
theorem lw_p40 : lw_okq (⟨"PuddingHobsModel", "readsBasin", "()V"⟩, 22) := ⟨⟨by decide +kernel, by decide +kernel⟩, List.mem_of_getElem? (i := 774) (by decide +kernel), List.mem_of_getElem? (i := 932) (by decide +kernel), List.mem_of_getElem? (i := 933) (by decide +kernel)⟩
theorem lw_p41 : lw_okq (⟨"PuddingHobsModel", "isHob", "()Z"⟩, 22) := ⟨⟨by decide +kernel, by decide +kernel⟩, List.mem_of_getElem? (i := 774) (by decide +kernel), List.mem_of_getElem? (i := 948) (by decide +kernel), List.mem_of_getElem? (i := 949) (by decide +kernel)⟩
theorem lw_p42 : lw_okq (⟨"PuddingHobsModel", "notes", "()V"⟩, 22) := ⟨⟨by decide +kernel, by decide +kernel⟩, List.mem_of_getElem? (i := 774) (by decide +kernel), List.mem_of_getElem? (i := 953) (by decide +kernel), List.mem_of_getElem? (i := 954) (by decide +kernel)⟩
theorem lw_p43 : lw_okq (⟨"PuddingHobsModel", "isBasin", "(I)Z"⟩, 22) := ⟨⟨by decide +kernel, by decide +kernel⟩, List.mem_of_getElem? (i := 774) (by decide +kernel), List.mem_of_getElem? (i := 994) (by decide +kernel), List.mem_of_getElem? (i := 995) (by decide +kernel)⟩
theorem lw_p44 : lw_okq (⟨"PuddingHobsModel", "isBurst", "(I)Z"⟩, 22) := ⟨⟨by decide +kernel, by decide +kernel⟩, List.mem_of_getElem? (i := 774) (by decide +kernel), List.mem_of_getElem? (i := 998) (by decide +kernel), List.mem_of_getElem? (i := 999) (by decide +kernel)⟩
theorem lw_p45 : lw_okq (⟨"PuddingHobsModel", "goesOn", "(I)V"⟩, 22) := ⟨⟨by decide +kernel, by decide +kernel⟩, List.mem_of_getElem? (i := 774) (by decide +kernel), List.mem_of_getElem? (i := 1040) (by decide +kernel), List.mem_of_getElem? (i := 1041) (by decide +kernel)⟩
theorem lw_p46 : lw_okq (⟨"PuddingHobsModel", "noneBursts", "(I)Z"⟩, 22) := ⟨⟨by decide +kernel, by decide +kernel⟩, List.mem_of_getElem? (i := 774) (by decide +kernel), List.mem_of_getElem? (i := 1070) (by decide +kernel), List.mem_of_getElem? (i := 1071) (by decide +kernel)⟩
theorem lw_p47 : lw_okq (⟨"PuddingHobsModel", "plumsIn", "(I)I"⟩, 22) := ⟨⟨by decide +kernel, by decide +kernel⟩, List.mem_of_getElem? (i := 774) (by decide +kernel), List.mem_of_getElem? (i := 1086) (by decide +kernel), List.mem_of_getElem? (i := 1087) (by decide +kernel)⟩
def lw_privs_3 : List (MethodName × Nat) := [(⟨"PuddingHobsModel", "isPart", "(III)Z"⟩, 22), (⟨"PuddingHobsModel", "advances", "()V"⟩, 22), (⟨"PuddingHobsModel", "byteAt", "(I)I"⟩, 22), (⟨"PuddingHobsModel", "takes", "(ZI)I"⟩, 22), (⟨"PuddingHobsModel", "isWell", "()Z"⟩, 22), (⟨"PuddingHobsModel", "figure", "(II)I"⟩, 22), (⟨"PuddingHobsModel", "follows", "(II)I"⟩, 22), (⟨"PuddingHobsModel", "must", "(Z)V"⟩, 22), (⟨"PuddingHobsModel", "readsBasin", "()V"⟩, 22), (⟨"PuddingHobsModel", "isHob", "()Z"⟩, 22), (⟨"PuddingHobsModel", "notes", "()V"⟩, 22), (⟨"PuddingHobsModel", "isBasin", "(I)Z"⟩, 22), (⟨"PuddingHobsModel", "isBurst", "(I)Z"⟩, 22), (⟨"PuddingHobsModel", "goesOn", "(I)V"⟩, 22), (⟨"PuddingHobsModel", "noneBursts", "(I)Z"⟩, 22), (⟨"PuddingHobsModel", "plumsIn", "(I)I"⟩, 22)]
theorem lw_r3 : ∀ q ∈ lw_privs_3, lw_okq q := List.forall_mem_cons.mpr ⟨lw_p32, List.forall_mem_cons.mpr ⟨lw_p33, List.forall_mem_cons.mpr ⟨lw_p34, List.forall_mem_cons.mpr ⟨lw_p35, List.forall_mem_cons.mpr ⟨lw_p36, List.forall_mem_cons.mpr ⟨lw_p37, List.forall_mem_cons.mpr ⟨lw_p38, List.forall_mem_cons.mpr ⟨lw_p39, List.forall_mem_cons.mpr ⟨lw_p40, List.forall_mem_cons.mpr ⟨lw_p41, List.forall_mem_cons.mpr ⟨lw_p42, List.forall_mem_cons.mpr ⟨lw_p43, List.forall_mem_cons.mpr ⟨lw_p44, List.forall_mem_cons.mpr ⟨lw_p45, List.forall_mem_cons.mpr ⟨lw_p46, List.forall_mem_cons.mpr ⟨lw_p47, fun _ h => absurd h List.not_mem_nil⟩⟩⟩⟩⟩⟩⟩⟩⟩⟩⟩⟩⟩⟩⟩⟩
theorem lw_p48 : lw_okq (⟨"PuddingHobsModel", "swellsSo", "(IIIII)Z"⟩, 22) := ⟨⟨by decide +kernel, by decide +kernel⟩, List.mem_of_getElem? (i := 774) (by decide +kernel), List.mem_of_getElem? (i := 1094) (by decide +kernel), List.mem_of_getElem? (i := 1095) (by decide +kernel)⟩
theorem lw_p49 : lw_okq (⟨"PuddingHobsModel", "kindIn", "(I)I"⟩, 22) := ⟨⟨by decide +kernel, by decide +kernel⟩, List.mem_of_getElem? (i := 774) (by decide +kernel), List.mem_of_getElem? (i := 1123) (by decide +kernel), List.mem_of_getElem? (i := 1124) (by decide +kernel)⟩
theorem lw_p50 : lw_okq (⟨"PuddingHobsModel", "blackSize", "(I)I"⟩, 22) := ⟨⟨by decide +kernel, by decide +kernel⟩, List.mem_of_getElem? (i := 774) (by decide +kernel), List.mem_of_getElem? (i := 1135) (by decide +kernel), List.mem_of_getElem? (i := 1136) (by decide +kernel)⟩
theorem lw_p51 : lw_okq (⟨"PuddingHobsModel", "begins", "(I)V"⟩, 22) := ⟨⟨by decide +kernel, by decide +kernel⟩, List.mem_of_getElem? (i := 774) (by decide +kernel), List.mem_of_getElem? (i := 1139) (by decide +kernel), List.mem_of_getElem? (i := 1140) (by decide +kernel)⟩
theorem lw_p52 : lw_okq (⟨"PuddingHobsModel", "plainSize", "(I)I"⟩, 22) := ⟨⟨by decide +kernel, by decide +kernel⟩, List.mem_of_getElem? (i := 774) (by decide +kernel), List.mem_of_getElem? (i := 1143) (by decide +kernel), List.mem_of_getElem? (i := 1144) (by decide +kernel)⟩
theorem lw_p53 : lw_okq (⟨"PuddingHobsModel", "plainMark", "(I)I"⟩, 22) := ⟨⟨by decide +kernel, by decide +kernel⟩, List.mem_of_getElem? (i := 774) (by decide +kernel), List.mem_of_getElem? (i := 1147) (by decide +kernel), List.mem_of_getElem? (i := 1148) (by decide +kernel)⟩
theorem lw_p54 : lw_okq (⟨"PuddingHobsModel", "blackMark", "(I)I"⟩, 22) := ⟨⟨by decide +kernel, by decide +kernel⟩, List.mem_of_getElem? (i := 774) (by decide +kernel), List.mem_of_getElem? (i := 1151) (by decide +kernel), List.mem_of_getElem? (i := 1152) (by decide +kernel)⟩
def lw_privs_4 : List (MethodName × Nat) := [(⟨"PuddingHobsModel", "swellsSo", "(IIIII)Z"⟩, 22), (⟨"PuddingHobsModel", "kindIn", "(I)I"⟩, 22), (⟨"PuddingHobsModel", "blackSize", "(I)I"⟩, 22), (⟨"PuddingHobsModel", "begins", "(I)V"⟩, 22), (⟨"PuddingHobsModel", "plainSize", "(I)I"⟩, 22), (⟨"PuddingHobsModel", "plainMark", "(I)I"⟩, 22), (⟨"PuddingHobsModel", "blackMark", "(I)I"⟩, 22)]
theorem lw_r4 : ∀ q ∈ lw_privs_4, lw_okq q := List.forall_mem_cons.mpr ⟨lw_p48, List.forall_mem_cons.mpr ⟨lw_p49, List.forall_mem_cons.mpr ⟨lw_p50, List.forall_mem_cons.mpr ⟨lw_p51, List.forall_mem_cons.mpr ⟨lw_p52, List.forall_mem_cons.mpr ⟨lw_p53, List.forall_mem_cons.mpr ⟨lw_p54, fun _ h => absurd h List.not_mem_nil⟩⟩⟩⟩⟩⟩⟩
def lw_privs : List (MethodName × Nat) := lw_privs_1 ++ (lw_privs_2 ++ (lw_privs_3 ++ (lw_privs_4)))
def lw_tbl : List Cond := k2_sels lw_privs ++ tables_1
theorem lw_privs_ok : ∀ q ∈ lw_privs, lw_okq q := by
  show ∀ q ∈ lw_privs_1 ++ (lw_privs_2 ++ (lw_privs_3 ++ (lw_privs_4))), lw_okq q
  exact List.forall_mem_append.mpr ⟨lw_r1, List.forall_mem_append.mpr ⟨lw_r2, List.forall_mem_append.mpr ⟨lw_r3, lw_r4⟩⟩⟩
def RX0 : String := "PuddingHobs$Acts"
def TX0 : u_T := fun k => match k with
  | 0 => ("PuddingHobs$Acts", "cells", "[I", true)
  | 1 => ("PuddingHobs$Acts", "next", "I", false)
  | _ => ("PuddingHobs$Acts", "kept", "I", false)
def tyX0 : Nat → FieldType := fun k => match k with
  | 0 => .array .int
  | 1 => .int
  | _ => .int
abbrev wsX00 : List Cond := u_ws RX0 TX0 3
theorem nmX0 : ∀ a, a < 3 → ∀ b, b < 3 → a ≠ b → (TX0 a).2.1 ≠ (TX0 b).2.1 := by decide +kernel
theorem tyX0_ok : ∀ k, k < 3 → parseFieldDescriptor (TX0 k).2.2.1 = some (tyX0 k) := by decide +kernel
def RX1 : String := "PuddingHobs$Asks"
def TX1 : u_T := fun k => match k with
  | 0 => ("PuddingHobs$Asks", "now", "LPuddingHobs$Hob;", true)
  | 1 => ("PuddingHobs$Asks", "bodies", "[I", true)
  | _ => ("PuddingHobs$Asks", "begun", "I", false)
def tyX1 : Nat → FieldType := fun k => match k with
  | 0 => .object "PuddingHobs$Hob"
  | 1 => .array .int
  | _ => .int
abbrev wsX10 : List Cond := u_ws RX1 TX1 3
theorem nmX1 : ∀ a, a < 3 → ∀ b, b < 3 → a ≠ b → (TX1 a).2.1 ≠ (TX1 b).2.1 := by decide +kernel
theorem tyX1_ok : ∀ k, k < 3 → parseFieldDescriptor (TX1 k).2.2.1 = some (tyX1 k) := by decide +kernel
def RX2 : String := "PuddingHobs$Foresight"
def TX2 : u_T := fun k => match k with
  | 0 => ("PuddingHobs$Foresight", "now", "LPuddingHobs$Hob;", true)
  | 1 => ("PuddingHobs$Foresight", "trial", "LPuddingHobs$Hob;", true)
  | _ => ("PuddingHobs$Foresight", "told", "[I", true)
def tyX2 : Nat → FieldType := fun k => match k with
  | 0 => .object "PuddingHobs$Hob"
  | 1 => .object "PuddingHobs$Hob"
  | _ => .array .int
abbrev wsX20 : List Cond := u_ws RX2 TX2 3
theorem nmX2 : ∀ a, a < 3 → ∀ b, b < 3 → a ≠ b → (TX2 a).2.1 ≠ (TX2 b).2.1 := by decide +kernel
theorem tyX2_ok : ∀ k, k < 3 → parseFieldDescriptor (TX2 k).2.2.1 = some (tyX2 k) := by decide +kernel
def RX3 : String := "PuddingHobs$Hob"
def TX3 : u_T := fun k => match k with
  | 0 => ("PuddingHobs$Hob", "kinds", "[I", true)
  | 1 => ("PuddingHobs$Hob", "plums", "[I", true)
  | 2 => ("PuddingHobs$Hob", "swells", "[I", true)
  | 3 => ("PuddingHobs$Hob", "places", "[I", true)
  | 4 => ("PuddingHobs$Hob", "size", "I", false)
  | 5 => ("PuddingHobs$Hob", "heat", "I", false)
  | 6 => ("PuddingHobs$Hob", "cloth", "I", false)
  | 7 => ("PuddingHobs$Hob", "hour", "I", false)
  | 8 => ("PuddingHobs$Hob", "onSet", "I", false)
  | 9 => ("PuddingHobs$Hob", "burstSet", "I", false)
  | _ => ("PuddingHobs$Hob", "stirredSet", "I", false)
def tyX3 : Nat → FieldType := fun k => match k with
  | 0 => .array .int
  | 1 => .array .int
  | 2 => .array .int
  | 3 => .array .int
  | 4 => .int
  | 5 => .int
  | 6 => .int
  | 7 => .int
  | 8 => .int
  | 9 => .int
  | _ => .int
abbrev wsX30 : List Cond := u_ws RX3 TX3 11
theorem nmX3 : ∀ a, a < 11 → ∀ b, b < 11 → a ≠ b → (TX3 a).2.1 ≠ (TX3 b).2.1 := by decide +kernel
theorem tyX3_ok : ∀ k, k < 11 → parseFieldDescriptor (TX3 k).2.2.1 = some (tyX3 k) := by decide +kernel
def RX4 : String := "PuddingHobs$Images"
def TX4 : u_T := fun k => match k with
  | 0 => ("PuddingHobs$Images", "cells", "[I", true)
  | _ => ("PuddingHobs$Images", "keptSet", "I", false)
def tyX4 : Nat → FieldType := fun k => match k with
  | 0 => .array .int
  | _ => .int
abbrev wsX40 : List Cond := u_ws RX4 TX4 2
theorem nmX4 : ∀ a, a < 2 → ∀ b, b < 2 → a ≠ b → (TX4 a).2.1 ≠ (TX4 b).2.1 := by decide +kernel
theorem tyX4_ok : ∀ k, k < 2 → parseFieldDescriptor (TX4 k).2.2.1 = some (tyX4 k) := by decide +kernel
def RX5 : String := "PuddingHobs$Rows"
def TX5 : u_T := fun k => match k with
  | 0 => ("PuddingHobs$Rows", "lanes", "[I", true)
  | 1 => ("PuddingHobs$Rows", "lengths", "[I", true)
  | _ => ("PuddingHobs$Rows", "items", "[I", true)
def tyX5 : Nat → FieldType := fun k => match k with
  | 0 => .array .int
  | 1 => .array .int
  | _ => .array .int
abbrev wsX50 : List Cond := u_ws RX5 TX5 3
theorem nmX5 : ∀ a, a < 3 → ∀ b, b < 3 → a ≠ b → (TX5 a).2.1 ≠ (TX5 b).2.1 := by decide +kernel
theorem tyX5_ok : ∀ k, k < 3 → parseFieldDescriptor (TX5 k).2.2.1 = some (tyX5 k) := by decide +kernel
def RX6 : String := "PuddingHobs$Tape"
def TX6 : u_T := fun k => match k with
  | 0 => ("PuddingHobs$Tape", "bytes", "[I", true)
  | 1 => ("PuddingHobs$Tape", "length", "I", false)
  | 2 => ("PuddingHobs$Tape", "at", "I", false)
  | 3 => ("PuddingHobs$Tape", "number", "I", false)
  | 4 => ("PuddingHobs$Tape", "firstNumber", "I", false)
  | 5 => ("PuddingHobs$Tape", "fault", "I", false)
  | _ => ("PuddingHobs$Tape", "faultPlace", "I", false)
def tyX6 : Nat → FieldType := fun k => match k with
  | 0 => .array .int
  | 1 => .int
  | 2 => .int
  | 3 => .int
  | 4 => .int
  | 5 => .int
  | _ => .int
abbrev wsX60 : List Cond := u_ws RX6 TX6 7
theorem nmX6 : ∀ a, a < 7 → ∀ b, b < 7 → a ≠ b → (TX6 a).2.1 ≠ (TX6 b).2.1 := by decide +kernel
theorem tyX6_ok : ∀ k, k < 7 → parseFieldDescriptor (TX6 k).2.2.1 = some (tyX6 k) := by decide +kernel
def RX7 : String := "PuddingHobs"
def TX7 : u_T := fun k => match k with
  | 0 => ("PuddingHobs", "rows", "LPuddingHobs$Rows;", true)
  | 1 => ("PuddingHobs", "tape", "LPuddingHobs$Tape;", true)
  | 2 => ("PuddingHobs", "now", "LPuddingHobs$Hob;", true)
  | 3 => ("PuddingHobs", "draft", "LPuddingHobs$Hob;", true)
  | 4 => ("PuddingHobs", "acts", "LPuddingHobs$Acts;", true)
  | 5 => ("PuddingHobs", "images", "LPuddingHobs$Images;", true)
  | 6 => ("PuddingHobs", "foresight", "LPuddingHobs$Foresight;", true)
  | 7 => ("PuddingHobs", "asks", "LPuddingHobs$Asks;", true)
  | _ => ("PuddingHobs", "latestFinding", "I", false)
def tyX7 : Nat → FieldType := fun k => match k with
  | 0 => .object "PuddingHobs$Rows"
  | 1 => .object "PuddingHobs$Tape"
  | 2 => .object "PuddingHobs$Hob"
  | 3 => .object "PuddingHobs$Hob"
  | 4 => .object "PuddingHobs$Acts"
  | 5 => .object "PuddingHobs$Images"
  | 6 => .object "PuddingHobs$Foresight"
  | 7 => .object "PuddingHobs$Asks"
  | _ => .int
abbrev wsX70 : List Cond := u_ws RX7 TX7 9
theorem nmX7 : ∀ a, a < 9 → ∀ b, b < 9 → a ≠ b → (TX7 a).2.1 ≠ (TX7 b).2.1 := by decide +kernel
theorem tyX7_ok : ∀ k, k < 9 → parseFieldDescriptor (TX7 k).2.2.1 = some (tyX7 k) := by decide +kernel
def RX8 : String := "PuddingHobsModel"
def TX8 : u_T := fun k => match k with
  | 0 => ("PuddingHobsModel", "lane", "[I", true)
  | 1 => ("PuddingHobsModel", "many", "[I", true)
  | 2 => ("PuddingHobsModel", "items", "[I", true)
  | 3 => ("PuddingHobsModel", "spare", "[I", true)
  | 4 => ("PuddingHobsModel", "status", "I", false)
  | 5 => ("PuddingHobsModel", "tape", "[I", true)
  | 6 => ("PuddingHobsModel", "taped", "I", false)
  | 7 => ("PuddingHobsModel", "faultKind", "I", false)
  | 8 => ("PuddingHobsModel", "faultPlace", "I", false)
  | 9 => ("PuddingHobsModel", "at", "I", false)
  | 10 => ("PuddingHobsModel", "start", "I", false)
  | 11 => ("PuddingHobsModel", "token", "I", false)
  | 12 => ("PuddingHobsModel", "value", "I", false)
  | 13 => ("PuddingHobsModel", "now", "[I", true)
  | 14 => ("PuddingHobsModel", "draft", "[I", true)
  | 15 => ("PuddingHobsModel", "tried", "[I", true)
  | 16 => ("PuddingHobsModel", "past", "[I", true)
  | 17 => ("PuddingHobsModel", "acts", "I", false)
  | 18 => ("PuddingHobsModel", "images", "[I", true)
  | 19 => ("PuddingHobsModel", "kept", "[Z", true)
  | 20 => ("PuddingHobsModel", "trace", "[I", true)
  | _ => ("PuddingHobsModel", "traced", "I", false)
def tyX8 : Nat → FieldType := fun k => match k with
  | 0 => .array .int
  | 1 => .array .int
  | 2 => .array .int
  | 3 => .array .int
  | 4 => .int
  | 5 => .array .int
  | 6 => .int
  | 7 => .int
  | 8 => .int
  | 9 => .int
  | 10 => .int
  | 11 => .int
  | 12 => .int
  | 13 => .array .int
  | 14 => .array .int
  | 15 => .array .int
  | 16 => .array .int
  | 17 => .int
  | 18 => .array .int
  | 19 => .array .boolean
  | 20 => .array .int
  | _ => .int
abbrev wsX80 : List Cond := u_ws RX8 TX8 22
theorem nmX8 : ∀ a, a < 22 → ∀ b, b < 22 → a ≠ b → (TX8 a).2.1 ≠ (TX8 b).2.1 := by decide +kernel
theorem tyX8_ok : ∀ k, k < 22 → parseFieldDescriptor (TX8 k).2.2.1 = some (tyX8 k) := by decide +kernel
def RJ6 : String := "java/lang/Integer"
def RJ9 : String := "java/lang/Math"
def RL : String := "PuddingHobsLaw"
def yX0_keep : MethodName := ⟨RX0, "keep", "(LPuddingHobs$Hob;)V"⟩
def yX0_takeBack : MethodName := ⟨RX0, "takeBack", "(LPuddingHobs$Hob;)Z"⟩
def yX0_forgetAll : MethodName := ⟨RX0, "forgetAll", "()V"⟩
def yX0_left : MethodName := ⟨RX0, "left", "()I"⟩
def yX1_isA : MethodName := ⟨RX1, "isA", "(II)Z"⟩
def yX1_answerAnew : MethodName := ⟨RX1, "answerAnew", "(II)I"⟩
def yX1_traced : MethodName := ⟨RX1, "traced", "(I)I"⟩
def yX1_bodyOf : MethodName := ⟨RX1, "bodyOf", "(II)I"⟩
def yX1_begin : MethodName := ⟨RX1, "begin", "(III)I"⟩
def yX1_leave : MethodName := ⟨RX1, "leave", "(I)V"⟩
def yX2_swellBehind : MethodName := ⟨RX2, "swellBehind", "(II)I"⟩
def yX2_burstBehind : MethodName := ⟨RX2, "burstBehind", "(I)I"⟩
def yX2_hoursTillBurst : MethodName := ⟨RX2, "hoursTillBurst", "(I)I"⟩
def yX2_firstToBurst : MethodName := ⟨RX2, "firstToBurst", "(I)I"⟩
def yX2_fewestStirs : MethodName := ⟨RX2, "fewestStirs", "(II)I"⟩
def yX2_fewestOff : MethodName := ⟨RX2, "fewestOff", "(I)I"⟩
def yX2_bestChange : MethodName := ⟨RX2, "bestChange", "(II)I"⟩
def yX2_greatestHeat : MethodName := ⟨RX2, "greatestHeat", "(I)I"⟩
def yX2_fitting : MethodName := ⟨RX2, "fitting", "(III)I"⟩
def yX2_alterTrial : MethodName := ⟨RX2, "alterTrial", "(III)V"⟩
def yX2_trialIsAsTold : MethodName := ⟨RX2, "trialIsAsTold", "(II)Z"⟩
def yX2_chanceWithMice : MethodName := ⟨RX2, "chanceWithMice", "(IIII)I"⟩
def yX2_weightOf : MethodName := ⟨RX2, "weightOf", "(II)I"⟩
def yX2_burstsWithMice : MethodName := ⟨RX2, "burstsWithMice", "(III)Z"⟩
def yX2_greatestDivisor : MethodName := ⟨RX2, "greatestDivisor", "(II)I"⟩
def yX2_century : MethodName := ⟨RX2, "century", "(III)I"⟩
def yX2_meddle : MethodName := ⟨RX2, "meddle", "(J)V"⟩
def yX2_beginTrial : MethodName := ⟨RX2, "beginTrial", "()V"⟩
def yX2_boilTrial : MethodName := ⟨RX2, "boilTrial", "(I)V"⟩
def yX2_trialBursts : MethodName := ⟨RX2, "trialBursts", "(II)Z"⟩
def yX2_trialBurstsNone : MethodName := ⟨RX2, "trialBurstsNone", "(I)Z"⟩
def yX3_isNone : MethodName := ⟨RX3, "isNone", "()Z"⟩
def yX3_has : MethodName := ⟨RX3, "has", "(I)Z"⟩
def yX3_isOn : MethodName := ⟨RX3, "isOn", "(I)Z"⟩
def yX3_isBurst : MethodName := ⟨RX3, "isBurst", "(I)Z"⟩
def yX3_isStirred : MethodName := ⟨RX3, "isStirred", "(I)Z"⟩
def yX3_clear : MethodName := ⟨RX3, "clear", "()V"⟩
def yX3_add : MethodName := ⟨RX3, "add", "(III)V"⟩
def yX3_takeFrom : MethodName := ⟨RX3, "takeFrom", "(LPuddingHobs$Hob;)V"⟩
def yX3_writeTo : MethodName := ⟨RX3, "writeTo", "([II)V"⟩
def yX3_readFrom : MethodName := ⟨RX3, "readFrom", "([II)V"⟩
def yX3_glowOf : MethodName := ⟨RX3, "glowOf", "(I)I"⟩
def yX3_growthOf : MethodName := ⟨RX3, "growthOf", "(I)I"⟩
def yX3_boil : MethodName := ⟨RX3, "boil", "()Z"⟩
def yX3_aboveCloth : MethodName := ⟨RX3, "aboveCloth", "()I"⟩
def yX3_pushNeighbours : MethodName := ⟨RX3, "pushNeighbours", "(I)V"⟩
def yX3_placesOf : MethodName := ⟨RX3, "placesOf", "(I)I"⟩
def yX3_raise : MethodName := ⟨RX3, "raise", "(II)V"⟩
def yX3_stirOnce : MethodName := ⟨RX3, "stirOnce", "(I)V"⟩
def yX3_turn : MethodName := ⟨RX3, "turn", "(I)V"⟩
def yX3_exchange : MethodName := ⟨RX3, "exchange", "(II)V"⟩
def yX3_swellTogether : MethodName := ⟨RX3, "swellTogether", "()I"⟩
def yX3_slicesOf : MethodName := ⟨RX3, "slicesOf", "(II)I"⟩
def yX3_plumsTogether : MethodName := ⟨RX3, "plumsTogether", "()I"⟩
def yX4_keep : MethodName := ⟨RX4, "keep", "(ILPuddingHobs$Hob;)V"⟩
def yX4_isKept : MethodName := ⟨RX4, "isKept", "(I)Z"⟩
def yX4_showTo : MethodName := ⟨RX4, "showTo", "(ILPuddingHobs$Hob;)V"⟩
def yX5_isRow : MethodName := ⟨RX5, "isRow", "(I)Z"⟩
def yX5_isLane : MethodName := ⟨RX5, "isLane", "(I)Z"⟩
def yX5_isMissing : MethodName := ⟨RX5, "isMissing", "(I)Z"⟩
def yX5_haveOneLane : MethodName := ⟨RX5, "haveOneLane", "(II)Z"⟩
def yX5_hasRun : MethodName := ⟨RX5, "hasRun", "(III)Z"⟩
def yX5_held : MethodName := ⟨RX5, "held", "()I"⟩
def yX5_make : MethodName := ⟨RX5, "make", "(III)V"⟩
def yX5_put : MethodName := ⟨RX5, "put", "(III)I"⟩
def yX5_item : MethodName := ⟨RX5, "item", "(II)I"⟩
def yX5_move : MethodName := ⟨RX5, "move", "(IIIII)V"⟩
def yX5_forget : MethodName := ⟨RX5, "forget", "(I)I"⟩
def yX5_startOf : MethodName := ⟨RX5, "startOf", "(I)I"⟩
def yX5_cutTo : MethodName := ⟨RX5, "cutTo", "(II)I"⟩
def yX6_size : MethodName := ⟨RX6, "size", "()I"⟩
def yX6_latestFault : MethodName := ⟨RX6, "latestFault", "()I"⟩
def yX6_faultPlace : MethodName := ⟨RX6, "faultPlace", "()I"⟩
def yX6_append : MethodName := ⟨RX6, "append", "(I)Z"⟩
def yX6_readInto : MethodName := ⟨RX6, "readInto", "(LPuddingHobs$Hob;)Z"⟩
def yX6_readLaw : MethodName := ⟨RX6, "readLaw", "(LPuddingHobs$Hob;)Z"⟩
def yX6_readBasin : MethodName := ⟨RX6, "readBasin", "(LPuddingHobs$Hob;)Z"⟩
def yX6_readPair : MethodName := ⟨RX6, "readPair", "(III)Z"⟩
def yX6_readNumber : MethodName := ⟨RX6, "readNumber", "(II)Z"⟩
def yX6_readSign : MethodName := ⟨RX6, "readSign", "(I)Z"⟩
def yX6_byteHere : MethodName := ⟨RX6, "byteHere", "()I"⟩
def yX6_figuresHere : MethodName := ⟨RX6, "figuresHere", "()I"⟩
def yX6_sortHere : MethodName := ⟨RX6, "sortHere", "()I"⟩
def yX6_faultHere : MethodName := ⟨RX6, "faultHere", "(I)Z"⟩
def yX7_row : MethodName := ⟨RX7, "row", "(III)I"⟩
def yX7_set : MethodName := ⟨RX7, "set", "(III)I"⟩
def yX7_copy : MethodName := ⟨RX7, "copy", "(IIIII)I"⟩
def yX7_drop : MethodName := ⟨RX7, "drop", "(I)I"⟩
def yX7_feed : MethodName := ⟨RX7, "feed", "(I)I"⟩
def yX7_hob : MethodName := ⟨RX7, "hob", "()I"⟩
def yX7_fault : MethodName := ⟨RX7, "fault", "()I"⟩
def yX7_hours : MethodName := ⟨RX7, "hours", "(I)I"⟩
def yX7_stir : MethodName := ⟨RX7, "stir", "(I)I"⟩
def yX7_on : MethodName := ⟨RX7, "on", "(II)I"⟩
def yX7_swap : MethodName := ⟨RX7, "swap", "(II)I"⟩
def yX7_plums : MethodName := ⟨RX7, "plums", "(II)I"⟩
def yX7_heat : MethodName := ⟨RX7, "heat", "(I)I"⟩
def yX7_undo : MethodName := ⟨RX7, "undo", "()I"⟩
def yX7_basin : MethodName := ⟨RX7, "basin", "(II)I"⟩
def yX7_place : MethodName := ⟨RX7, "place", "(I)I"⟩
def yX7_swell : MethodName := ⟨RX7, "swell", "(II)I"⟩
def yX7_burst : MethodName := ⟨RX7, "burst", "(I)I"⟩
def yX7_bursting : MethodName := ⟨RX7, "bursting", "(I)I"⟩
def yX7_first : MethodName := ⟨RX7, "first", "(I)I"⟩
def yX7_stirs : MethodName := ⟨RX7, "stirs", "(II)I"⟩
def yX7_off : MethodName := ⟨RX7, "off", "(II)I"⟩
def yX7_change : MethodName := ⟨RX7, "change", "(II)I"⟩
def yX7_hottest : MethodName := ⟨RX7, "hottest", "(I)I"⟩
def yX7_slices : MethodName := ⟨RX7, "slices", "(II)I"⟩
def yX7_fits : MethodName := ⟨RX7, "fits", "(IIIII)I"⟩
def yX7_mice : MethodName := ⟨RX7, "mice", "(IIII)I"⟩
def yX7_drawn : MethodName := ⟨RX7, "drawn", "(III)I"⟩
def yX7_image : MethodName := ⟨RX7, "image", "(I)I"⟩
def yX7_restore : MethodName := ⟨RX7, "restore", "(I)I"⟩
def yX7_kind : MethodName := ⟨RX7, "kind", "(I)I"⟩
def yX7_as : MethodName := ⟨RX7, "as", "(II)I"⟩
def yX7_ask : MethodName := ⟨RX7, "ask", "(II)I"⟩
def yX7_trace : MethodName := ⟨RX7, "trace", "(I)I"⟩
def yX7_count : MethodName := ⟨RX7, "count", "(I)I"⟩
def yX7_status : MethodName := ⟨RX7, "status", "()I"⟩
def yX7_found : MethodName := ⟨RX7, "found", "(I)I"⟩
def yX7_unfound : MethodName := ⟨RX7, "unfound", "(I)I"⟩
def yX7_isBit : MethodName := ⟨RX7, "isBit", "(I)Z"⟩
def yX7_isSpan : MethodName := ⟨RX7, "isSpan", "(I)Z"⟩
def yX8_in : MethodName := ⟨RX8, "in", "(III)Z"⟩
def yX8_has : MethodName := ⟨RX8, "has", "(II)Z"⟩
def yX8_ones : MethodName := ⟨RX8, "ones", "(I)I"⟩
def yX8_lesser : MethodName := ⟨RX8, "lesser", "(II)I"⟩
def yX8_found : MethodName := ⟨RX8, "found", "(I)I"⟩
def yX8_well : MethodName := ⟨RX8, "well", "(I)I"⟩
def yX8_copies : MethodName := ⟨RX8, "copies", "([II[II)V"⟩
def yX8_isRow : MethodName := ⟨RX8, "isRow", "(I)Z"⟩
def yX8_isMissing : MethodName := ⟨RX8, "isMissing", "(I)Z"⟩
def yX8_cut : MethodName := ⟨RX8, "cut", "(II)I"⟩
def yX8_row : MethodName := ⟨RX8, "row", "(III)I"⟩
def yX8_set : MethodName := ⟨RX8, "set", "(III)I"⟩
def yX8_isPart : MethodName := ⟨RX8, "isPart", "(III)Z"⟩
def yX8_copy : MethodName := ⟨RX8, "copy", "(IIIII)I"⟩
def yX8_drop : MethodName := ⟨RX8, "drop", "(I)I"⟩
def yX8_feed : MethodName := ⟨RX8, "feed", "(I)I"⟩
def yX8_byteAt : MethodName := ⟨RX8, "byteAt", "(I)I"⟩
def yX8_advances : MethodName := ⟨RX8, "advances", "()V"⟩
def yX8_isWell : MethodName := ⟨RX8, "isWell", "()Z"⟩
def yX8_takes : MethodName := ⟨RX8, "takes", "(ZI)I"⟩
def yX8_figure : MethodName := ⟨RX8, "figure", "(II)I"⟩
def yX8_kindOf : MethodName := ⟨RX8, "kindOf", "(I)I"⟩
def yX8_follows : MethodName := ⟨RX8, "follows", "(II)I"⟩
def yX8_readsBasin : MethodName := ⟨RX8, "readsBasin", "()V"⟩
def yX8_must : MethodName := ⟨RX8, "must", "(Z)V"⟩
def yX8_hob : MethodName := ⟨RX8, "hob", "()I"⟩
def yX8_fault : MethodName := ⟨RX8, "fault", "()I"⟩
def yX8_isHob : MethodName := ⟨RX8, "isHob", "()Z"⟩
def yX8_isBasin : MethodName := ⟨RX8, "isBasin", "(I)Z"⟩
def yX8_isBurst : MethodName := ⟨RX8, "isBurst", "(I)Z"⟩
def yX8_glow : MethodName := ⟨RX8, "glow", "([II)I"⟩
def yX8_swelling : MethodName := ⟨RX8, "swelling", "([II)I"⟩
def yX8_areSo : MethodName := ⟨RX8, "areSo", "([II)I"⟩
def yX8_ripe : MethodName := ⟨RX8, "ripe", "([I)I"⟩
def yX8_inPlace : MethodName := ⟨RX8, "inPlace", "([II)I"⟩
def yX8_isOf : MethodName := ⟨RX8, "isOf", "([III)Z"⟩
def yX8_swells : MethodName := ⟨RX8, "swells", "([III)V"⟩
def yX8_bursts : MethodName := ⟨RX8, "bursts", "([II)V"⟩
def yX8_passes : MethodName := ⟨RX8, "passes", "([I)V"⟩
def yX8_stirsOne : MethodName := ⟨RX8, "stirsOne", "([II)V"⟩
def yX8_changes : MethodName := ⟨RX8, "changes", "([III)V"⟩
def yX8_notes : MethodName := ⟨RX8, "notes", "()V"⟩
def yX8_hours : MethodName := ⟨RX8, "hours", "(I)I"⟩
def yX8_stir : MethodName := ⟨RX8, "stir", "(I)I"⟩
def yX8_on : MethodName := ⟨RX8, "on", "(II)I"⟩
def yX8_swap : MethodName := ⟨RX8, "swap", "(II)I"⟩
def yX8_plums : MethodName := ⟨RX8, "plums", "(II)I"⟩
def yX8_heat : MethodName := ⟨RX8, "heat", "(I)I"⟩
def yX8_undo : MethodName := ⟨RX8, "undo", "()I"⟩
def yX8_basin : MethodName := ⟨RX8, "basin", "(II)I"⟩
def yX8_place : MethodName := ⟨RX8, "place", "(I)I"⟩
def yX8_goesOn : MethodName := ⟨RX8, "goesOn", "(I)V"⟩
def yX8_swell : MethodName := ⟨RX8, "swell", "(II)I"⟩
def yX8_burst : MethodName := ⟨RX8, "burst", "(I)I"⟩
def yX8_bursting : MethodName := ⟨RX8, "bursting", "(I)I"⟩
def yX8_first : MethodName := ⟨RX8, "first", "(I)I"⟩
def yX8_isNear : MethodName := ⟨RX8, "isNear", "(I)Z"⟩
def yX8_stirs : MethodName := ⟨RX8, "stirs", "(II)I"⟩
def yX8_noneBursts : MethodName := ⟨RX8, "noneBursts", "(I)Z"⟩
def yX8_off : MethodName := ⟨RX8, "off", "(II)I"⟩
def yX8_change : MethodName := ⟨RX8, "change", "(II)I"⟩
def yX8_hottest : MethodName := ⟨RX8, "hottest", "(I)I"⟩
def yX8_plumsIn : MethodName := ⟨RX8, "plumsIn", "(I)I"⟩
def yX8_slices : MethodName := ⟨RX8, "slices", "(II)I"⟩
def yX8_swellsSo : MethodName := ⟨RX8, "swellsSo", "(IIIII)Z"⟩
def yX8_fits : MethodName := ⟨RX8, "fits", "(IIIII)I"⟩
def yX8_mice : MethodName := ⟨RX8, "mice", "(IIII)I"⟩
def yX8_drawn : MethodName := ⟨RX8, "drawn", "(III)I"⟩
def yX8_image : MethodName := ⟨RX8, "image", "(I)I"⟩
def yX8_restore : MethodName := ⟨RX8, "restore", "(I)I"⟩
def yX8_kindIn : MethodName := ⟨RX8, "kindIn", "(I)I"⟩
def yX8_kind : MethodName := ⟨RX8, "kind", "(I)I"⟩
def yX8_as : MethodName := ⟨RX8, "as", "(II)I"⟩
def yX8_begins : MethodName := ⟨RX8, "begins", "(I)V"⟩
def yX8_plainMark : MethodName := ⟨RX8, "plainMark", "(I)I"⟩
def yX8_blackSize : MethodName := ⟨RX8, "blackSize", "(I)I"⟩
def yX8_plainSize : MethodName := ⟨RX8, "plainSize", "(I)I"⟩
def yX8_blackMark : MethodName := ⟨RX8, "blackMark", "(I)I"⟩
def yX8_ask : MethodName := ⟨RX8, "ask", "(II)I"⟩
def yX8_trace : MethodName := ⟨RX8, "trace", "(I)I"⟩
def yX8_count : MethodName := ⟨RX8, "count", "(I)I"⟩
def yX8_status : MethodName := ⟨RX8, "status", "()I"⟩
def yJ6_numberOfTrailingZeros_0f7a4 : MethodName := ⟨RJ6, "numberOfTrailingZeros", "(I)I"⟩
def yJ6_bitCount_0f7a4 : MethodName := ⟨RJ6, "bitCount", "(I)I"⟩
def yL_law : MethodName := ⟨RL, "law", "([I)Z"⟩
abbrev vwCl : List vw_C := [(RX0, TX0, 3), (RX1, TX1, 3), (RX2, TX2, 3), (RX3, TX3, 11), (RX4, TX4, 2), (RX5, TX5, 3), (RX6, TX6, 7), (RX7, TX7, 9), (RX8, TX8, 22)]
/-- the words that stay as they are when tables get warm -/
def hm_tbl : List Cond := lw_tbl.filter goodWord
theorem hm_in {i : Nat} {w : Cond} (h : lw_tbl[i]? = some w) (hg : goodWord w = true) : w ∈ hm_tbl := List.mem_filter.mpr ⟨List.mem_of_getElem? h, hg⟩
theorem hm_gd : ∀ w ∈ hm_tbl, w ∈ lw_tbl ∧ goodWord w = true := fun w h => List.mem_filter.mp h
