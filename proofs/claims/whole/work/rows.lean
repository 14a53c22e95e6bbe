section
-- ===== PART A: goes FIRST, ahead of the names: the tables' words, and 'selects' of the private methods out of them =====
/-- a private method of a class that the tables say can be made, by its rows of tables_1 -/
def lw_okq (q : MethodName × Nat) : Prop := (q.1.cls ≠ "java/lang/invoke/MethodHandle" ∧ q.1.cls ≠ "java/lang/invoke/VarHandle") ∧ Cond.instantiable q.1.cls q.2 ∈ tables_1 ∧ Cond.privateMethod q.1 ∈ tables_1 ∧ Cond.instanceMethod q.1 ∈ tables_1
theorem lw_p0 : lw_okq (⟨"PuddingHobs", "found", "(I)I"⟩, 9) := ⟨⟨by decide +kernel, by decide +kernel⟩, List.mem_of_getElem? (i := 14) (by decide +kernel), List.mem_of_getElem? (i := 235) (by decide +kernel), List.mem_of_getElem? (i := 236) (by decide +kernel)⟩
theorem lw_p1 : lw_okq (⟨"PuddingHobs", "unfound", "(I)I"⟩, 9) := ⟨⟨by decide +kernel, by decide +kernel⟩, List.mem_of_getElem? (i := 14) (by decide +kernel), List.mem_of_getElem? (i := 247) (by decide +kernel), List.mem_of_getElem? (i := 248) (by decide +kernel)⟩
theorem lw_p2 : lw_okq (⟨"PuddingHobs$Tape", "readLaw", "(LPuddingHobs$Hob;)Z"⟩, 7) := ⟨⟨by decide +kernel, by decide +kernel⟩, List.mem_of_getElem? (i := 39) (by decide +kernel), List.mem_of_getElem? (i := 318) (by decide +kernel), List.mem_of_getElem? (i := 319) (by decide +kernel)⟩
theorem lw_p3 : lw_okq (⟨"PuddingHobs$Tape", "byteHere", "()I"⟩, 7) := ⟨⟨by decide +kernel, by decide +kernel⟩, List.mem_of_getElem? (i := 39) (by decide +kernel), List.mem_of_getElem? (i := 322) (by decide +kernel), List.mem_of_getElem? (i := 323) (by decide +kernel)⟩
theorem lw_p4 : lw_okq (⟨"PuddingHobs$Tape", "faultHere", "(I)Z"⟩, 7) := ⟨⟨by decide +kernel, by decide +kernel⟩, List.mem_of_getElem? (i := 39) (by decide +kernel), List.mem_of_getElem? (i := 326) (by decide +kernel), List.mem_of_getElem? (i := 327) (by decide +kernel)⟩
theorem lw_p5 : lw_okq (⟨"PuddingHobs$Tape", "readPair", "(III)Z"⟩, 7) := ⟨⟨by decide +kernel, by decide +kernel⟩, List.mem_of_getElem? (i := 39) (by decide +kernel), List.mem_of_getElem? (i := 330) (by decide +kernel), List.mem_of_getElem? (i := 331) (by decide +kernel)⟩
theorem lw_p6 : lw_okq (⟨"PuddingHobs$Tape", "readNumber", "(II)Z"⟩, 7) := ⟨⟨by decide +kernel, by decide +kernel⟩, List.mem_of_getElem? (i := 39) (by decide +kernel), List.mem_of_getElem? (i := 334) (by decide +kernel), List.mem_of_getElem? (i := 335) (by decide +kernel)⟩
theorem lw_p7 : lw_okq (⟨"PuddingHobs$Tape", "figuresHere", "()I"⟩, 7) := ⟨⟨by decide +kernel, by decide +kernel⟩, List.mem_of_getElem? (i := 39) (by decide +kernel), List.mem_of_getElem? (i := 338) (by decide +kernel), List.mem_of_getElem? (i := 339) (by decide +kernel)⟩
theorem lw_p8 : lw_okq (⟨"PuddingHobs$Tape", "readSign", "(I)Z"⟩, 7) := ⟨⟨by decide +kernel, by decide +kernel⟩, List.mem_of_getElem? (i := 39) (by decide +kernel), List.mem_of_getElem? (i := 342) (by decide +kernel), List.mem_of_getElem? (i := 343) (by decide +kernel)⟩
theorem lw_p9 : lw_okq (⟨"PuddingHobs$Tape", "readBasin", "(LPuddingHobs$Hob;)Z"⟩, 7) := ⟨⟨by decide +kernel, by decide +kernel⟩, List.mem_of_getElem? (i := 39) (by decide +kernel), List.mem_of_getElem? (i := 346) (by decide +kernel), List.mem_of_getElem? (i := 347) (by decide +kernel)⟩
theorem lw_p10 : lw_okq (⟨"PuddingHobs$Tape", "sortHere", "()I"⟩, 7) := ⟨⟨by decide +kernel, by decide +kernel⟩, List.mem_of_getElem? (i := 39) (by decide +kernel), List.mem_of_getElem? (i := 350) (by decide +kernel), List.mem_of_getElem? (i := 351) (by decide +kernel)⟩
theorem lw_p11 : lw_okq (⟨"PuddingHobs$Hob", "isStirred", "(I)Z"⟩, 11) := ⟨⟨by decide +kernel, by decide +kernel⟩, List.mem_of_getElem? (i := 67) (by decide +kernel), List.mem_of_getElem? (i := 423) (by decide +kernel), List.mem_of_getElem? (i := 424) (by decide +kernel)⟩
theorem lw_p12 : lw_okq (⟨"PuddingHobs$Hob", "raise", "(II)V"⟩, 11) := ⟨⟨by decide +kernel, by decide +kernel⟩, List.mem_of_getElem? (i := 67) (by decide +kernel), List.mem_of_getElem? (i := 427) (by decide +kernel), List.mem_of_getElem? (i := 428) (by decide +kernel)⟩
theorem lw_p13 : lw_okq (⟨"PuddingHobs$Hob", "aboveCloth", "()I"⟩, 11) := ⟨⟨by decide +kernel, by decide +kernel⟩, List.mem_of_getElem? (i := 67) (by decide +kernel), List.mem_of_getElem? (i := 432) (by decide +kernel), List.mem_of_getElem? (i := 433) (by decide +kernel)⟩
theorem lw_p14 : lw_okq (⟨"PuddingHobs$Hob", "pushNeighbours", "(I)V"⟩, 11) := ⟨⟨by decide +kernel, by decide +kernel⟩, List.mem_of_getElem? (i := 67) (by decide +kernel), List.mem_of_getElem? (i := 436) (by decide +kernel), List.mem_of_getElem? (i := 437) (by decide +kernel)⟩
theorem lw_p15 : lw_okq (⟨"PuddingHobs$Hob", "placesOf", "(I)I"⟩, 11) := ⟨⟨by decide +kernel, by decide +kernel⟩, List.mem_of_getElem? (i := 67) (by decide +kernel), List.mem_of_getElem? (i := 440) (by decide +kernel), List.mem_of_getElem? (i := 441) (by decide +kernel)⟩
def lw_privs_1 : List (MethodName × Nat) := [(⟨"PuddingHobs", "found", "(I)I"⟩, 9), (⟨"PuddingHobs", "unfound", "(I)I"⟩, 9), (⟨"PuddingHobs$Tape", "readLaw", "(LPuddingHobs$Hob;)Z"⟩, 7), (⟨"PuddingHobs$Tape", "byteHere", "()I"⟩, 7), (⟨"PuddingHobs$Tape", "faultHere", "(I)Z"⟩, 7), (⟨"PuddingHobs$Tape", "readPair", "(III)Z"⟩, 7), (⟨"PuddingHobs$Tape", "readNumber", "(II)Z"⟩, 7), (⟨"PuddingHobs$Tape", "figuresHere", "()I"⟩, 7), (⟨"PuddingHobs$Tape", "readSign", "(I)Z"⟩, 7), (⟨"PuddingHobs$Tape", "readBasin", "(LPuddingHobs$Hob;)Z"⟩, 7), (⟨"PuddingHobs$Tape", "sortHere", "()I"⟩, 7), (⟨"PuddingHobs$Hob", "isStirred", "(I)Z"⟩, 11), (⟨"PuddingHobs$Hob", "raise", "(II)V"⟩, 11), (⟨"PuddingHobs$Hob", "aboveCloth", "()I"⟩, 11), (⟨"PuddingHobs$Hob", "pushNeighbours", "(I)V"⟩, 11), (⟨"PuddingHobs$Hob", "placesOf", "(I)I"⟩, 11)]
theorem lw_r1 : ∀ q ∈ lw_privs_1, lw_okq q := List.forall_mem_cons.mpr ⟨lw_p0, List.forall_mem_cons.mpr ⟨lw_p1, List.forall_mem_cons.mpr ⟨lw_p2, List.forall_mem_cons.mpr ⟨lw_p3, List.forall_mem_cons.mpr ⟨lw_p4, List.forall_mem_cons.mpr ⟨lw_p5, List.forall_mem_cons.mpr ⟨lw_p6, List.forall_mem_cons.mpr ⟨lw_p7, List.forall_mem_cons.mpr ⟨lw_p8, List.forall_mem_cons.mpr ⟨lw_p9, List.forall_mem_cons.mpr ⟨lw_p10, List.forall_mem_cons.mpr ⟨lw_p11, List.forall_mem_cons.mpr ⟨lw_p12, List.forall_mem_cons.mpr ⟨lw_p13, List.forall_mem_cons.mpr ⟨lw_p14, List.forall_mem_cons.mpr ⟨lw_p15, fun _ h => absurd h List.not_mem_nil⟩⟩⟩⟩⟩⟩⟩⟩⟩⟩⟩⟩⟩⟩⟩⟩
theorem lw_p16 : lw_okq (⟨"PuddingHobs$Foresight", "beginTrial", "()V"⟩, 3) := ⟨⟨by decide +kernel, by decide +kernel⟩, List.mem_of_getElem? (i := 161) (by decide +kernel), List.mem_of_getElem? (i := 526) (by decide +kernel), List.mem_of_getElem? (i := 527) (by decide +kernel)⟩
theorem lw_p17 : lw_okq (⟨"PuddingHobs$Foresight", "boilTrial", "(I)V"⟩, 3) := ⟨⟨by decide +kernel, by decide +kernel⟩, List.mem_of_getElem? (i := 161) (by decide +kernel), List.mem_of_getElem? (i := 531) (by decide +kernel), List.mem_of_getElem? (i := 532) (by decide +kernel)⟩
theorem lw_p18 : lw_okq (⟨"PuddingHobs$Foresight", "trialBursts", "(II)Z"⟩, 3) := ⟨⟨by decide +kernel, by decide +kernel⟩, List.mem_of_getElem? (i := 161) (by decide +kernel), List.mem_of_getElem? (i := 578) (by decide +kernel), List.mem_of_getElem? (i := 579) (by decide +kernel)⟩
theorem lw_p19 : lw_okq (⟨"PuddingHobs$Foresight", "trialBurstsNone", "(I)Z"⟩, 3) := ⟨⟨by decide +kernel, by decide +kernel⟩, List.mem_of_getElem? (i := 161) (by decide +kernel), List.mem_of_getElem? (i := 591) (by decide +kernel), List.mem_of_getElem? (i := 592) (by decide +kernel)⟩
theorem lw_p20 : lw_okq (⟨"PuddingHobs$Hob", "plumsTogether", "()I"⟩, 11) := ⟨⟨by decide +kernel, by decide +kernel⟩, List.mem_of_getElem? (i := 67) (by decide +kernel), List.mem_of_getElem? (i := 622) (by decide +kernel), List.mem_of_getElem? (i := 623) (by decide +kernel)⟩
theorem lw_p21 : lw_okq (⟨"PuddingHobs$Foresight", "alterTrial", "(III)V"⟩, 3) := ⟨⟨by decide +kernel, by decide +kernel⟩, List.mem_of_getElem? (i := 161) (by decide +kernel), List.mem_of_getElem? (i := 642) (by decide +kernel), List.mem_of_getElem? (i := 643) (by decide +kernel)⟩
theorem lw_p22 : lw_okq (⟨"PuddingHobs$Foresight", "trialIsAsTold", "(II)Z"⟩, 3) := ⟨⟨by decide +kernel, by decide +kernel⟩, List.mem_of_getElem? (i := 161) (by decide +kernel), List.mem_of_getElem? (i := 646) (by decide +kernel), List.mem_of_getElem? (i := 647) (by decide +kernel)⟩
theorem lw_p23 : lw_okq (⟨"PuddingHobs$Foresight", "weightOf", "(II)I"⟩, 3) := ⟨⟨by decide +kernel, by decide +kernel⟩, List.mem_of_getElem? (i := 161) (by decide +kernel), List.mem_of_getElem? (i := 658) (by decide +kernel), List.mem_of_getElem? (i := 659) (by decide +kernel)⟩
theorem lw_p24 : lw_okq (⟨"PuddingHobs$Foresight", "burstsWithMice", "(III)Z"⟩, 3) := ⟨⟨by decide +kernel, by decide +kernel⟩, List.mem_of_getElem? (i := 161) (by decide +kernel), List.mem_of_getElem? (i := 662) (by decide +kernel), List.mem_of_getElem? (i := 663) (by decide +kernel)⟩
theorem lw_p25 : lw_okq (⟨"PuddingHobs$Foresight", "meddle", "(J)V"⟩, 3) := ⟨⟨by decide +kernel, by decide +kernel⟩, List.mem_of_getElem? (i := 161) (by decide +kernel), List.mem_of_getElem? (i := 682) (by decide +kernel), List.mem_of_getElem? (i := 683) (by decide +kernel)⟩
theorem lw_p26 : lw_okq (⟨"PuddingHobs$Asks", "bodyOf", "(II)I"⟩, 3) := ⟨⟨by decide +kernel, by decide +kernel⟩, List.mem_of_getElem? (i := 180) (by decide +kernel), List.mem_of_getElem? (i := 736) (by decide +kernel), List.mem_of_getElem? (i := 737) (by decide +kernel)⟩
theorem lw_p27 : lw_okq (⟨"PuddingHobs$Asks", "begin", "(III)I"⟩, 3) := ⟨⟨by decide +kernel, by decide +kernel⟩, List.mem_of_getElem? (i := 180) (by decide +kernel), List.mem_of_getElem? (i := 744) (by decide +kernel), List.mem_of_getElem? (i := 745) (by decide +kernel)⟩
theorem lw_p28 : lw_okq (⟨"PuddingHobs$Asks", "leave", "(I)V"⟩, 3) := ⟨⟨by decide +kernel, by decide +kernel⟩, List.mem_of_getElem? (i := 180) (by decide +kernel), List.mem_of_getElem? (i := 748) (by decide +kernel), List.mem_of_getElem? (i := 749) (by decide +kernel)⟩
theorem lw_p29 : lw_okq (⟨"PuddingHobsModel", "found", "(I)I"⟩, 22) := ⟨⟨by decide +kernel, by decide +kernel⟩, List.mem_of_getElem? (i := 774) (by decide +kernel), List.mem_of_getElem? (i := 860) (by decide +kernel), List.mem_of_getElem? (i := 861) (by decide +kernel)⟩
theorem lw_p30 : lw_okq (⟨"PuddingHobsModel", "well", "(I)I"⟩, 22) := ⟨⟨by decide +kernel, by decide +kernel⟩, List.mem_of_getElem? (i := 774) (by decide +kernel), List.mem_of_getElem? (i := 865) (by decide +kernel), List.mem_of_getElem? (i := 866) (by decide +kernel)⟩
theorem lw_p31 : lw_okq (⟨"PuddingHobsModel", "isMissing", "(I)Z"⟩, 22) := ⟨⟨by decide +kernel, by decide +kernel⟩, List.mem_of_getElem? (i := 774) (by decide +kernel), List.mem_of_getElem? (i := 873) (by decide +kernel), List.mem_of_getElem? (i := 874) (by decide +kernel)⟩
def lw_privs_2 : List (MethodName × Nat) := [(⟨"PuddingHobs$Foresight", "beginTrial", "()V"⟩, 3), (⟨"PuddingHobs$Foresight", "boilTrial", "(I)V"⟩, 3), (⟨"PuddingHobs$Foresight", "trialBursts", "(II)Z"⟩, 3), (⟨"PuddingHobs$Foresight", "trialBurstsNone", "(I)Z"⟩, 3), (⟨"PuddingHobs$Hob", "plumsTogether", "()I"⟩, 11), (⟨"PuddingHobs$Foresight", "alterTrial", "(III)V"⟩, 3), (⟨"PuddingHobs$Foresight", "trialIsAsTold", "(II)Z"⟩, 3), (⟨"PuddingHobs$Foresight", "weightOf", "(II)I"⟩, 3), (⟨"PuddingHobs$Foresight", "burstsWithMice", "(III)Z"⟩, 3), (⟨"PuddingHobs$Foresight", "meddle", "(J)V"⟩, 3), (⟨"PuddingHobs$Asks", "bodyOf", "(II)I"⟩, 3), (⟨"PuddingHobs$Asks", "begin", "(III)I"⟩, 3), (⟨"PuddingHobs$Asks", "leave", "(I)V"⟩, 3), (⟨"PuddingHobsModel", "found", "(I)I"⟩, 22), (⟨"PuddingHobsModel", "well", "(I)I"⟩, 22), (⟨"PuddingHobsModel", "isMissing", "(I)Z"⟩, 22)]
theorem lw_r2 : ∀ q ∈ lw_privs_2, lw_okq q := List.forall_mem_cons.mpr ⟨lw_p16, List.forall_mem_cons.mpr ⟨lw_p17, List.forall_mem_cons.mpr ⟨lw_p18, List.forall_mem_cons.mpr ⟨lw_p19, List.forall_mem_cons.mpr ⟨lw_p20, List.forall_mem_cons.mpr ⟨lw_p21, List.forall_mem_cons.mpr ⟨lw_p22, List.forall_mem_cons.mpr ⟨lw_p23, List.forall_mem_cons.mpr ⟨lw_p24, List.forall_mem_cons.mpr ⟨lw_p25, List.forall_mem_cons.mpr ⟨lw_p26, List.forall_mem_cons.mpr ⟨lw_p27, List.forall_mem_cons.mpr ⟨lw_p28, List.forall_mem_cons.mpr ⟨lw_p29, List.forall_mem_cons.mpr ⟨lw_p30, List.forall_mem_cons.mpr ⟨lw_p31, fun _ h => absurd h List.not_mem_nil⟩⟩⟩⟩⟩⟩⟩⟩⟩⟩⟩⟩⟩⟩⟩⟩
theorem lw_p32 : lw_okq (⟨"PuddingHobsModel", "isPart", "(III)Z"⟩, 22) := ⟨⟨by decide +kernel, by decide +kernel⟩, List.mem_of_getElem? (i := 774) (by decide +kernel), List.mem_of_getElem? (i := 884) (by decide +kernel), List.mem_of_getElem? (i := 885) (by decide +kernel)⟩
theorem lw_p33 : lw_okq (⟨"PuddingHobsModel", "advances", "()V"⟩, 22) := ⟨⟨by decide +kernel, by decide +kernel⟩, List.mem_of_getElem? (i := 774) (by decide +kernel), List.mem_of_getElem? (i := 901) (by decide +kernel), List.mem_of_getElem? (i := 902) (by decide +kernel)⟩
theorem lw_p34 : lw_okq (⟨"PuddingHobsModel", "byteAt", "(I)I"⟩, 22) := ⟨⟨by decide +kernel, by decide +kernel⟩, List.mem_of_getElem? (i := 774) (by decide +kernel), List.mem_of_getElem? (i := 905) (by decide +kernel), List.mem_of_getElem? (i := 906) (by decide +kernel)⟩
theorem lw_p35 : lw_okq (⟨"PuddingHobsModel", "takes", "(ZI)I"⟩, 22) := ⟨⟨by decide +kernel, by decide +kernel⟩, List.mem_of_getElem? (i := 774) (by decide +kernel), List.mem_of_getElem? (i := 909) (by decide +kernel), List.mem_of_getElem? (i := 910) (by decide +kernel)⟩
theorem lw_p36 : lw_okq (⟨"PuddingHobsModel", "isWell", "()Z"⟩, 22) := ⟨⟨by decide +kernel, by decide +kernel⟩, List.mem_of_getElem? (i := 774) (by decide +kernel), List.mem_of_getElem? (i := 913) (by decide +kernel), List.mem_of_getElem? (i := 914) (by decide +kernel)⟩
theorem lw_p37 : lw_okq (⟨"PuddingHobsModel", "figure", "(II)I"⟩, 22) := ⟨⟨by decide +kernel, by decide +kernel⟩, List.mem_of_getElem? (i := 774) (by decide +kernel), List.mem_of_getElem? (i := 917) (by decide +kernel), List.mem_of_getElem? (i := 918) (by decide +kernel)⟩
theorem lw_p38 : lw_okq (⟨"PuddingHobsModel", "follows", "(II)I"⟩, 22) := ⟨⟨by decide +kernel, by decide +kernel⟩, List.mem_of_getElem? (i := 774) (by decide +kernel), List.mem_of_getElem? (i := 921) (by decide +kernel), List.mem_of_getElem? (i := 922) (by decide +kernel)⟩
theorem lw_p39 : lw_okq (⟨"PuddingHobsModel", "must", "(Z)V"⟩, 22) := ⟨⟨by decide +kernel, by decide +kernel⟩, List.mem_of_getElem? (i := 774) (by decide +kernel), List.mem_of_getElem? (i := 928) (by decide +kernel), List.mem_of_getElem? (i := 929) (by decide +kernel)⟩
theorem lw_p40 : lw_okq (⟨"PuddingHobsModel", "readsBasin", "()V"⟩, 22) := ⟨⟨by decide +kernel, by decide +kernel⟩, List.mem_of_getElem? (i := 774) (by decide +kernel), List.mem_of_getElem? (i := 932) (by decide +kernel), List.mem_of_getElem? (i := 933) (by decide +kernel)⟩
theorem lw_p41 : lw_okq (⟨"PuddingHobsModel", "isHob", "()Z"⟩, 22) := ⟨⟨by decide +kernel, by decide +kernel⟩, List.mem_of_getElem? (i := 774) (by decide +kernel), List.mem_of_getElem? (i := 948) (by decide +kernel), List.mem_of_getElem? (i := 949) (by decide +kernel)⟩
theorem lw_p42 : lw_okq (⟨"PuddingHobsModel", "notes", "()V"⟩, 22) := ⟨⟨by decide +kernel, by decide +kernel⟩, List.mem_of_getElem? (i := 774) (by decide +kernel), List.mem_of_getElem? (i := 953) (by decide +kernel), List.mem_of_getElem? (i := 954) (by decide +kernel)⟩
theorem lw_p43 : lw_okq (⟨"PuddingHobsModel", "isBasin", "(I)Z"⟩, 22) := ⟨⟨by decide +kernel, by decide +kernel⟩, List.mem_of_getElem? (i := 774) (by decide +kernel), List.mem_of_getElem? (i := 994) (by decide +kernel), List.mem_of_getElem? (i := 995) (by decide +kernel)⟩
theorem lw_p44 : lw_okq (⟨"PuddingHobsModel", "isBurst", "(I)Z"⟩, 22) := ⟨⟨by decide +kernel, by decide +kernel⟩, List.mem_of_getElem? (i := 774) (by decide +kernel), List.mem_of_getElem? (i := 998) (by decide +kernel), List.mem_of_getElem? (i := 999) (by decide +kernel)⟩
theorem lw_p45 : lw_okq (⟨"PuddingHobsModel", "goesOn", "(I)V"⟩, 22) := ⟨⟨by decide +kernel, by decide +kernel⟩, List.mem_of_getElem? (i := 774) (by decide +kernel), List.mem_of_getElem? (i := 1040) (by decide +kernel), List.mem_of_getElem? (i := 1041) (by decide +kernel)⟩
theorem lw_p46 : lw_okq (⟨"PuddingHobsModel", "noneBursts", "(I)Z"⟩, 22) := ⟨⟨by decide +kernel, by decide +kernel⟩, List.mem_of_getElem? (i := 774) (by decide +kernel), List.mem_of_getElem? (i := 1070) (by decide +kernel), List.mem_of_getElem? (i := 1071) (by decide +kernel)⟩
theorem lw_p47 : lw_okq (⟨"PuddingHobsModel", "plumsIn", "(I)I"⟩, 22) := ⟨⟨by decide +kernel, by decide +kernel⟩, List.mem_of_getElem? (i := 774) (by decide +kernel), List.mem_of_getElem? (i := 1086) (by decide +kernel), List.mem_of_getElem? (i := 1087) (by decide +kernel)⟩
def lw_privs_3 : List (MethodName × Nat) := [(⟨"PuddingHobsModel", "isPart", "(III)Z"⟩, 22), (⟨"PuddingHobsModel", "advances", "()V"⟩, 22), (⟨"PuddingHobsModel", "byteAt", "(I)I"⟩, 22), (⟨"PuddingHobsModel", "takes", "(ZI)I"⟩, 22), (⟨"PuddingHobsModel", "isWell", "()Z"⟩, 22), (⟨"PuddingHobsModel", "figure", "(II)I"⟩, 22), (⟨"PuddingHobsModel", "follows", "(II)I"⟩, 22), (⟨"PuddingHobsModel", "must", "(Z)V"⟩, 22), (⟨"PuddingHobsModel", "readsBasin", "()V"⟩, 22), (⟨"PuddingHobsModel", "isHob", "()Z"⟩, 22), (⟨"PuddingHobsModel", "notes", "()V"⟩, 22), (⟨"PuddingHobsModel", "isBasin", "(I)Z"⟩, 22), (⟨"PuddingHobsModel", "isBurst", "(I)Z"⟩, 22), (⟨"PuddingHobsModel", "goesOn", "(I)V"⟩, 22), (⟨"PuddingHobsModel", "noneBursts", "(I)Z"⟩, 22), (⟨"PuddingHobsModel", "plumsIn", "(I)I"⟩, 22)]
theorem lw_r3 : ∀ q ∈ lw_privs_3, lw_okq q := List.forall_mem_cons.mpr ⟨lw_p32, List.forall_mem_cons.mpr ⟨lw_p33, List.forall_mem_cons.mpr ⟨lw_p34, List.forall_mem_cons.mpr ⟨lw_p35, List.forall_mem_cons.mpr ⟨lw_p36, List.forall_mem_cons.mpr ⟨lw_p37, List.forall_mem_cons.mpr ⟨lw_p38, List.forall_mem_cons.mpr ⟨lw_p39, List.forall_mem_cons.mpr ⟨lw_p40, List.forall_mem_cons.mpr ⟨lw_p41, List.forall_mem_cons.mpr ⟨lw_p42, List.forall_mem_cons.mpr ⟨lw_p43, List.forall_mem_cons.mpr ⟨lw_p44, List.forall_mem_cons.mpr ⟨lw_p45, List.forall_mem_cons.mpr ⟨lw_p46, List.forall_mem_cons.mpr ⟨lw_p47, fun _ h => absurd h List.not_mem_nil⟩⟩⟩⟩⟩⟩⟩⟩⟩⟩⟩⟩⟩⟩⟩⟩
theorem lw_p48 : lw_okq (⟨"PuddingHobsModel", "swellsSo", "(IIIII)Z"⟩, 22) := ⟨⟨by decide +kernel, by decide +kernel⟩, List.mem_of_getElem? (i := 774) (by decide +kernel), List.mem_of_getElem? (i := 1094) (by decide +kernel), List.mem_of_getElem? (i := 1095) (by decide +kernel)⟩
theorem lw_p49 : lw_okq (⟨"PuddingHobsModel", "kindIn", "(I)I"⟩, 22) := ⟨⟨by decide +kernel, by decide +kernel⟩, List.mem_of_getElem? (i := 774) (by decide +kernel), List.mem_of_getElem? (i := 1123) (by decide +kernel), List.mem_of_getElem? (i := 1124) (by decide +kernel)⟩
theorem lw_p50 : lw_okq (⟨"PuddingHobsModel", "blackSize", "(I)I"⟩, 22) := ⟨⟨by decide +kernel, by decide +kernel⟩, List.mem_of_getElem? (i := 774) (by decide +kernel), List.mem_of_getElem? (i := 1135) (by decide +kernel), List.mem_of_getElem? (i := 1136) (by decide +kernel)⟩
theorem lw_p51 : lw_okq (⟨"PuddingHobsModel", "begins", "(I)V"⟩, 22) := ⟨⟨by decide +kernel, by decide +kernel⟩, List.mem_of_getElem? (i := 774) (by decide +kernel), List.mem_of_getElem? (i := 1139) (by decide +kernel), List.mem_of_getElem? (i := 1140) (by decide +kernel)⟩
theorem lw_p52 : lw_okq (⟨"PuddingHobsModel", "plainSize", "(I)I"⟩, 22) := ⟨⟨by decide +kernel, by decide +kernel⟩, List.mem_of_getElem? (i := 774) (by decide +kernel), List.mem_of_getElem? (i := 1143) (by decide +kernel), List.mem_of_getElem? (i := 1144) (by decide +kernel)⟩
theorem lw_p53 : lw_okq (⟨"PuddingHobsModel", "plainMark", "(I)I"⟩, 22) := ⟨⟨by decide +kernel, by decide +kernel⟩, List.mem_of_getElem? (i := 774) (by decide +kernel), List.mem_of_getElem? (i := 1147) (by decide +kernel), List.mem_of_getElem? (i := 1148) (by decide +kernel)⟩
theorem lw_p54 : lw_okq (⟨"PuddingHobsModel", "blackMark", "(I)I"⟩, 22) := ⟨⟨by decide +kernel, by decide +kernel⟩, List.mem_of_getElem? (i := 774) (by decide +kernel), List.mem_of_getElem? (i := 1151) (by decide +kernel), List.mem_of_getElem? (i := 1152) (by decide +kernel)⟩
def lw_privs_4 : List (MethodName × Nat) := [(⟨"PuddingHobsModel", "swellsSo", "(IIIII)Z"⟩, 22), (⟨"PuddingHobsModel", "kindIn", "(I)I"⟩, 22), (⟨"PuddingHobsModel", "blackSize", "(I)I"⟩, 22), (⟨"PuddingHobsModel", "begins", "(I)V"⟩, 22), (⟨"PuddingHobsModel", "plainSize", "(I)I"⟩, 22), (⟨"PuddingHobsModel", "plainMark", "(I)I"⟩, 22), (⟨"PuddingHobsModel", "blackMark", "(I)I"⟩, 22)]
theorem lw_r4 : ∀ q ∈ lw_privs_4, lw_okq q := List.forall_mem_cons.mpr ⟨lw_p48, List.forall_mem_cons.mpr ⟨lw_p49, List.forall_mem_cons.mpr ⟨lw_p50, List.forall_mem_cons.mpr ⟨lw_p51, List.forall_mem_cons.mpr ⟨lw_p52, List.forall_mem_cons.mpr ⟨lw_p53, List.forall_mem_cons.mpr ⟨lw_p54, fun _ h => absurd h List.not_mem_nil⟩⟩⟩⟩⟩⟩⟩
def lw_privs : List (MethodName × Nat) := lw_privs_1 ++ (lw_privs_2 ++ (lw_privs_3 ++ (lw_privs_4)))
def lw_tbl : List Cond := k2_sels lw_privs ++ tables_1
theorem lw_privs_ok : ∀ q ∈ lw_privs, lw_okq q := by
  show ∀ q ∈ lw_privs_1 ++ (lw_privs_2 ++ (lw_privs_3 ++ (lw_privs_4))), lw_okq q
  exact List.forall_mem_append.mpr ⟨lw_r1, List.forall_mem_append.mpr ⟨lw_r2, List.forall_mem_append.mpr ⟨lw_r3, lw_r4⟩⟩⟩
def RX0 : String := "PuddingHobs$Acts"
def TX0 : u_T := fun k => match k with
  | 0 => ("PuddingHobs$Acts", "cells", "[I", true)
  | 1 => ("PuddingHobs$Acts", "next", "I", false)
  | _ => ("PuddingHobs$Acts", "kept", "I", false)
def tyX0 : Nat → FieldType := fun k => match k with
  | 0 => .array .int
  | 1 => .int
  | _ => .int
abbrev wsX00 : List Cond := u_ws RX0 TX0 3
theorem nmX0 : ∀ a, a < 3 → ∀ b, b < 3 → a ≠ b → (TX0 a).2.1 ≠ (TX0 b).2.1 := by decide +kernel
theorem tyX0_ok : ∀ k, k < 3 → parseFieldDescriptor (TX0 k).2.2.1 = some (tyX0 k) := by decide +kernel
def RX1 : String := "PuddingHobs$Asks"
def TX1 : u_T := fun k => match k with
  | 0 => ("PuddingHobs$Asks", "now", "LPuddingHobs$Hob;", true)
  | 1 => ("PuddingHobs$Asks", "bodies", "[I", true)
  | _ => ("PuddingHobs$Asks", "begun", "I", false)
def tyX1 : Nat → FieldType := fun k => match k with
  | 0 => .object "PuddingHobs$Hob"
  | 1 => .array .int
  | _ => .int
abbrev wsX10 : List Cond := u_ws RX1 TX1 3
theorem nmX1 : ∀ a, a < 3 → ∀ b, b < 3 → a ≠ b → (TX1 a).2.1 ≠ (TX1 b).2.1 := by decide +kernel
theorem tyX1_ok : ∀ k, k < 3 → parseFieldDescriptor (TX1 k).2.2.1 = some (tyX1 k) := by decide +kernel
def RX2 : String := "PuddingHobs$Foresight"
def TX2 : u_T := fun k => match k with
  | 0 => ("PuddingHobs$Foresight", "now", "LPuddingHobs$Hob;", true)
  | 1 => ("PuddingHobs$Foresight", "trial", "LPuddingHobs$Hob;", true)
  | _ => ("PuddingHobs$Foresight", "told", "[I", true)
def tyX2 : Nat → FieldType := fun k => match k with
  | 0 => .object "PuddingHobs$Hob"
  | 1 => .object "PuddingHobs$Hob"
  | _ => .array .int
abbrev wsX20 : List Cond := u_ws RX2 TX2 3
theorem nmX2 : ∀ a, a < 3 → ∀ b, b < 3 → a ≠ b → (TX2 a).2.1 ≠ (TX2 b).2.1 := by decide +kernel
theorem tyX2_ok : ∀ k, k < 3 → parseFieldDescriptor (TX2 k).2.2.1 = some (tyX2 k) := by decide +kernel
def RX3 : String := "PuddingHobs$Hob"
def TX3 : u_T := fun k => match k with
  | 0 => ("PuddingHobs$Hob", "kinds", "[I", true)
  | 1 => ("PuddingHobs$Hob", "plums", "[I", true)
  | 2 => ("PuddingHobs$Hob", "swells", "[I", true)
  | 3 => ("PuddingHobs$Hob", "places", "[I", true)
  | 4 => ("PuddingHobs$Hob", "size", "I", false)
  | 5 => ("PuddingHobs$Hob", "heat", "I", false)
  | 6 => ("PuddingHobs$Hob", "cloth", "I", false)
  | 7 => ("PuddingHobs$Hob", "hour", "I", false)
  | 8 => ("PuddingHobs$Hob", "onSet", "I", false)
  | 9 => ("PuddingHobs$Hob", "burstSet", "I", false)
  | _ => ("PuddingHobs$Hob", "stirredSet", "I", false)
def tyX3 : Nat → FieldType := fun k => match k with
  | 0 => .array .int
  | 1 => .array .int
  | 2 => .array .int
  | 3 => .array .int
  | 4 => .int
  | 5 => .int
  | 6 => .int
  | 7 => .int
  | 8 => .int
  | 9 => .int
  | _ => .int
abbrev wsX30 : List Cond := u_ws RX3 TX3 11
theorem nmX3 : ∀ a, a < 11 → ∀ b, b < 11 → a ≠ b → (TX3 a).2.1 ≠ (TX3 b).2.1 := by decide +kernel
theorem tyX3_ok : ∀ k, k < 11 → parseFieldDescriptor (TX3 k).2.2.1 = some (tyX3 k) := by decide +kernel
def RX4 : String := "PuddingHobs$Images"
def TX4 : u_T := fun k => match k with
  | 0 => ("PuddingHobs$Images", "cells", "[I", true)
  | _ => ("PuddingHobs$Images", "keptSet", "I", false)
def tyX4 : Nat → FieldType := fun k => match k with
  | 0 => .array .int
  | _ => .int
abbrev wsX40 : List Cond := u_ws RX4 TX4 2
theorem nmX4 : ∀ a, a < 2 → ∀ b, b < 2 → a ≠ b → (TX4 a).2.1 ≠ (TX4 b).2.1 := by decide +kernel
theorem tyX4_ok : ∀ k, k < 2 → parseFieldDescriptor (TX4 k).2.2.1 = some (tyX4 k) := by decide +kernel
def RX5 : String := "PuddingHobs$Rows"
def TX5 : u_T := fun k => match k with
  | 0 => ("PuddingHobs$Rows", "lanes", "[I", true)
  | 1 => ("PuddingHobs$Rows", "lengths", "[I", true)
  | _ => ("PuddingHobs$Rows", "items", "[I", true)
def tyX5 : Nat → FieldType := fun k => match k with
  | 0 => .array .int
  | 1 => .array .int
  | _ => .array .int
abbrev wsX50 : List Cond := u_ws RX5 TX5 3
theorem nmX5 : ∀ a, a < 3 → ∀ b, b < 3 → a ≠ b → (TX5 a).2.1 ≠ (TX5 b).2.1 := by decide +kernel
theorem tyX5_ok : ∀ k, k < 3 → parseFieldDescriptor (TX5 k).2.2.1 = some (tyX5 k) := by decide +kernel
def RX6 : String := "PuddingHobs$Tape"
def TX6 : u_T := fun k => match k with
  | 0 => ("PuddingHobs$Tape", "bytes", "[I", true)
  | 1 => ("PuddingHobs$Tape", "length", "I", false)
  | 2 => ("PuddingHobs$Tape", "at", "I", false)
  | 3 => ("PuddingHobs$Tape", "number", "I", false)
  | 4 => ("PuddingHobs$Tape", "firstNumber", "I", false)
  | 5 => ("PuddingHobs$Tape", "fault", "I", false)
  | _ => ("PuddingHobs$Tape", "faultPlace", "I", false)
def tyX6 : Nat → FieldType := fun k => match k with
  | 0 => .array .int
  | 1 => .int
  | 2 => .int
  | 3 => .int
  | 4 => .int
  | 5 => .int
  | _ => .int
abbrev wsX60 : List Cond := u_ws RX6 TX6 7
theorem nmX6 : ∀ a, a < 7 → ∀ b, b < 7 → a ≠ b → (TX6 a).2.1 ≠ (TX6 b).2.1 := by decide +kernel
theorem tyX6_ok : ∀ k, k < 7 → parseFieldDescriptor (TX6 k).2.2.1 = some (tyX6 k) := by decide +kernel
def RX7 : String := "PuddingHobs"
def TX7 : u_T := fun k => match k with
  | 0 => ("PuddingHobs", "rows", "LPuddingHobs$Rows;", true)
  | 1 => ("PuddingHobs", "tape", "LPuddingHobs$Tape;", true)
  | 2 => ("PuddingHobs", "now", "LPuddingHobs$Hob;", true)
  | 3 => ("PuddingHobs", "draft", "LPuddingHobs$Hob;", true)
  | 4 => ("PuddingHobs", "acts", "LPuddingHobs$Acts;", true)
  | 5 => ("PuddingHobs", "images", "LPuddingHobs$Images;", true)
  | 6 => ("PuddingHobs", "foresight", "LPuddingHobs$Foresight;", true)
  | 7 => ("PuddingHobs", "asks", "LPuddingHobs$Asks;", true)
  | _ => ("PuddingHobs", "latestFinding", "I", false)
def tyX7 : Nat → FieldType := fun k => match k with
  | 0 => .object "PuddingHobs$Rows"
  | 1 => .object "PuddingHobs$Tape"
  | 2 => .object "PuddingHobs$Hob"
  | 3 => .object "PuddingHobs$Hob"
  | 4 => .object "PuddingHobs$Acts"
  | 5 => .object "PuddingHobs$Images"
  | 6 => .object "PuddingHobs$Foresight"
  | 7 => .object "PuddingHobs$Asks"
  | _ => .int
abbrev wsX70 : List Cond := u_ws RX7 TX7 9
theorem nmX7 : ∀ a, a < 9 → ∀ b, b < 9 → a ≠ b → (TX7 a).2.1 ≠ (TX7 b).2.1 := by decide +kernel
theorem tyX7_ok : ∀ k, k < 9 → parseFieldDescriptor (TX7 k).2.2.1 = some (tyX7 k) := by decide +kernel
def RX8 : String := "PuddingHobsModel"
def TX8 : u_T := fun k => match k with
  | 0 => ("PuddingHobsModel", "lane", "[I", true)
  | 1 => ("PuddingHobsModel", "many", "[I", true)
  | 2 => ("PuddingHobsModel", "items", "[I", true)
  | 3 => ("PuddingHobsModel", "spare", "[I", true)
  | 4 => ("PuddingHobsModel", "status", "I", false)
  | 5 => ("PuddingHobsModel", "tape", "[I", true)
  | 6 => ("PuddingHobsModel", "taped", "I", false)
  | 7 => ("PuddingHobsModel", "faultKind", "I", false)
  | 8 => ("PuddingHobsModel", "faultPlace", "I", false)
  | 9 => ("PuddingHobsModel", "at", "I", false)
  | 10 => ("PuddingHobsModel", "start", "I", false)
  | 11 => ("PuddingHobsModel", "token", "I", false)
  | 12 => ("PuddingHobsModel", "value", "I", false)
  | 13 => ("PuddingHobsModel", "now", "[I", true)
  | 14 => ("PuddingHobsModel", "draft", "[I", true)
  | 15 => ("PuddingHobsModel", "tried", "[I", true)
  | 16 => ("PuddingHobsModel", "past", "[I", true)
  | 17 => ("PuddingHobsModel", "acts", "I", false)
  | 18 => ("PuddingHobsModel", "images", "[I", true)
  | 19 => ("PuddingHobsModel", "kept", "[Z", true)
  | 20 => ("PuddingHobsModel", "trace", "[I", true)
  | _ => ("PuddingHobsModel", "traced", "I", false)
def tyX8 : Nat → FieldType := fun k => match k with
  | 0 => .array .int
  | 1 => .array .int
  | 2 => .array .int
  | 3 => .array .int
  | 4 => .int
  | 5 => .array .int
  | 6 => .int
  | 7 => .int
  | 8 => .int
  | 9 => .int
  | 10 => .int
  | 11 => .int
  | 12 => .int
  | 13 => .array .int
  | 14 => .array .int
  | 15 => .array .int
  | 16 => .array .int
  | 17 => .int
  | 18 => .array .int
  | 19 => .array .boolean
  | 20 => .array .int
  | _ => .int
abbrev wsX80 : List Cond := u_ws RX8 TX8 22
theorem nmX8 : ∀ a, a < 22 → ∀ b, b < 22 → a ≠ b → (TX8 a).2.1 ≠ (TX8 b).2.1 := by decide +kernel
theorem tyX8_ok : ∀ k, k < 22 → parseFieldDescriptor (TX8 k).2.2.1 = some (tyX8 k) := by decide +kernel
def RJ6 : String := "java/lang/Integer"
def RJ9 : String := "java/lang/Math"
def RL : String := "PuddingHobsLaw"
def yX0_keep : MethodName := ⟨RX0, "keep", "(LPuddingHobs$Hob;)V"⟩
def yX0_takeBack : MethodName := ⟨RX0, "takeBack", "(LPuddingHobs$Hob;)Z"⟩
def yX0_forgetAll : MethodName := ⟨RX0, "forgetAll", "()V"⟩
def yX0_left : MethodName := ⟨RX0, "left", "()I"⟩
def yX1_isA : MethodName := ⟨RX1, "isA", "(II)Z"⟩
def yX1_answerAnew : MethodName := ⟨RX1, "answerAnew", "(II)I"⟩
def yX1_traced : MethodName := ⟨RX1, "traced", "(I)I"⟩
def yX1_bodyOf : MethodName := ⟨RX1, "bodyOf", "(II)I"⟩
def yX1_begin : MethodName := ⟨RX1, "begin", "(III)I"⟩
def yX1_leave : MethodName := ⟨RX1, "leave", "(I)V"⟩
def yX2_swellBehind : MethodName := ⟨RX2, "swellBehind", "(II)I"⟩
def yX2_burstBehind : MethodName := ⟨RX2, "burstBehind", "(I)I"⟩
def yX2_hoursTillBurst : MethodName := ⟨RX2, "hoursTillBurst", "(I)I"⟩
def yX2_firstToBurst : MethodName := ⟨RX2, "firstToBurst", "(I)I"⟩
def yX2_fewestStirs : MethodName := ⟨RX2, "fewestStirs", "(II)I"⟩
def yX2_fewestOff : MethodName := ⟨RX2, "fewestOff", "(I)I"⟩
def yX2_bestChange : MethodName := ⟨RX2, "bestChange", "(II)I"⟩
def yX2_greatestHeat : MethodName := ⟨RX2, "greatestHeat", "(I)I"⟩
def yX2_fitting : MethodName := ⟨RX2, "fitting", "(III)I"⟩
def yX2_alterTrial : MethodName := ⟨RX2, "alterTrial", "(III)V"⟩
def yX2_trialIsAsTold : MethodName := ⟨RX2, "trialIsAsTold", "(II)Z"⟩
def yX2_chanceWithMice : MethodName := ⟨RX2, "chanceWithMice", "(IIII)I"⟩
def yX2_weightOf : MethodName := ⟨RX2, "weightOf", "(II)I"⟩
def yX2_burstsWithMice : MethodName := ⟨RX2, "burstsWithMice", "(III)Z"⟩
def yX2_greatestDivisor : MethodName := ⟨RX2, "greatestDivisor", "(II)I"⟩
def yX2_century : MethodName := ⟨RX2, "century", "(III)I"⟩
def yX2_meddle : MethodName := ⟨RX2, "meddle", "(J)V"⟩
def yX2_beginTrial : MethodName := ⟨RX2, "beginTrial", "()V"⟩
def yX2_boilTrial : MethodName := ⟨RX2, "boilTrial", "(I)V"⟩
def yX2_trialBursts : MethodName := ⟨RX2, "trialBursts", "(II)Z"⟩
def yX2_trialBurstsNone : MethodName := ⟨RX2, "trialBurstsNone", "(I)Z"⟩
def yX3_isNone : MethodName := ⟨RX3, "isNone", "()Z"⟩
def yX3_has : MethodName := ⟨RX3, "has", "(I)Z"⟩
def yX3_isOn : MethodName := ⟨RX3, "isOn", "(I)Z"⟩
def yX3_isBurst : MethodName := ⟨RX3, "isBurst", "(I)Z"⟩
def yX3_isStirred : MethodName := ⟨RX3, "isStirred", "(I)Z"⟩
def yX3_clear : MethodName := ⟨RX3, "clear", "()V"⟩
def yX3_add : MethodName := ⟨RX3, "add", "(III)V"⟩
def yX3_takeFrom : MethodName := ⟨RX3, "takeFrom", "(LPuddingHobs$Hob;)V"⟩
def yX3_writeTo : MethodName := ⟨RX3, "writeTo", "([II)V"⟩
def yX3_readFrom : MethodName := ⟨RX3, "readFrom", "([II)V"⟩
def yX3_glowOf : MethodName := ⟨RX3, "glowOf", "(I)I"⟩
def yX3_growthOf : MethodName := ⟨RX3, "growthOf", "(I)I"⟩
def yX3_boil : MethodName := ⟨RX3, "boil", "()Z"⟩
def yX3_aboveCloth : MethodName := ⟨RX3, "aboveCloth", "()I"⟩
def yX3_pushNeighbours : MethodName := ⟨RX3, "pushNeighbours", "(I)V"⟩
def yX3_placesOf : MethodName := ⟨RX3, "placesOf", "(I)I"⟩
def yX3_raise : MethodName := ⟨RX3, "raise", "(II)V"⟩
def yX3_stirOnce : MethodName := ⟨RX3, "stirOnce", "(I)V"⟩
def yX3_turn : MethodName := ⟨RX3, "turn", "(I)V"⟩
def yX3_exchange : MethodName := ⟨RX3, "exchange", "(II)V"⟩
def yX3_swellTogether : MethodName := ⟨RX3, "swellTogether", "()I"⟩
def yX3_slicesOf : MethodName := ⟨RX3, "slicesOf", "(II)I"⟩
def yX3_plumsTogether : MethodName := ⟨RX3, "plumsTogether", "()I"⟩
def yX4_keep : MethodName := ⟨RX4, "keep", "(ILPuddingHobs$Hob;)V"⟩
def yX4_isKept : MethodName := ⟨RX4, "isKept", "(I)Z"⟩
def yX4_showTo : MethodName := ⟨RX4, "showTo", "(ILPuddingHobs$Hob;)V"⟩
def yX5_isRow : MethodName := ⟨RX5, "isRow", "(I)Z"⟩
def yX5_isLane : MethodName := ⟨RX5, "isLane", "(I)Z"⟩
def yX5_isMissing : MethodName := ⟨RX5, "isMissing", "(I)Z"⟩
def yX5_haveOneLane : MethodName := ⟨RX5, "haveOneLane", "(II)Z"⟩
def yX5_hasRun : MethodName := ⟨RX5, "hasRun", "(III)Z"⟩
def yX5_held : MethodName := ⟨RX5, "held", "()I"⟩
def yX5_make : MethodName := ⟨RX5, "make", "(III)V"⟩
def yX5_put : MethodName := ⟨RX5, "put", "(III)I"⟩
def yX5_item : MethodName := ⟨RX5, "item", "(II)I"⟩
def yX5_move : MethodName := ⟨RX5, "move", "(IIIII)V"⟩
def yX5_forget : MethodName := ⟨RX5, "forget", "(I)I"⟩
def yX5_startOf : MethodName := ⟨RX5, "startOf", "(I)I"⟩
def yX5_cutTo : MethodName := ⟨RX5, "cutTo", "(II)I"⟩
def yX6_size : MethodName := ⟨RX6, "size", "()I"⟩
def yX6_latestFault : MethodName := ⟨RX6, "latestFault", "()I"⟩
def yX6_faultPlace : MethodName := ⟨RX6, "faultPlace", "()I"⟩
def yX6_append : MethodName := ⟨RX6, "append", "(I)Z"⟩
def yX6_readInto : MethodName := ⟨RX6, "readInto", "(LPuddingHobs$Hob;)Z"⟩
def yX6_readLaw : MethodName := ⟨RX6, "readLaw", "(LPuddingHobs$Hob;)Z"⟩
def yX6_readBasin : MethodName := ⟨RX6, "readBasin", "(LPuddingHobs$Hob;)Z"⟩
def yX6_readPair : MethodName := ⟨RX6, "readPair", "(III)Z"⟩
def yX6_readNumber : MethodName := ⟨RX6, "readNumber", "(II)Z"⟩
def yX6_readSign : MethodName := ⟨RX6, "readSign", "(I)Z"⟩
def yX6_byteHere : MethodName := ⟨RX6, "byteHere", "()I"⟩
def yX6_figuresHere : MethodName := ⟨RX6, "figuresHere", "()I"⟩
def yX6_sortHere : MethodName := ⟨RX6, "sortHere", "()I"⟩
def yX6_faultHere : MethodName := ⟨RX6, "faultHere", "(I)Z"⟩
def yX7_row : MethodName := ⟨RX7, "row", "(III)I"⟩
def yX7_set : MethodName := ⟨RX7, "set", "(III)I"⟩
def yX7_copy : MethodName := ⟨RX7, "copy", "(IIIII)I"⟩
def yX7_drop : MethodName := ⟨RX7, "drop", "(I)I"⟩
def yX7_feed : MethodName := ⟨RX7, "feed", "(I)I"⟩
def yX7_hob : MethodName := ⟨RX7, "hob", "()I"⟩
def yX7_fault : MethodName := ⟨RX7, "fault", "()I"⟩
def yX7_hours : MethodName := ⟨RX7, "hours", "(I)I"⟩
def yX7_stir : MethodName := ⟨RX7, "stir", "(I)I"⟩
def yX7_on : MethodName := ⟨RX7, "on", "(II)I"⟩
def yX7_swap : MethodName := ⟨RX7, "swap", "(II)I"⟩
def yX7_plums : MethodName := ⟨RX7, "plums", "(II)I"⟩
def yX7_heat : MethodName := ⟨RX7, "heat", "(I)I"⟩
def yX7_undo : MethodName := ⟨RX7, "undo", "()I"⟩
def yX7_basin : MethodName := ⟨RX7, "basin", "(II)I"⟩
def yX7_place : MethodName := ⟨RX7, "place", "(I)I"⟩
def yX7_swell : MethodName := ⟨RX7, "swell", "(II)I"⟩
def yX7_burst : MethodName := ⟨RX7, "burst", "(I)I"⟩
def yX7_bursting : MethodName := ⟨RX7, "bursting", "(I)I"⟩
def yX7_first : MethodName := ⟨RX7, "first", "(I)I"⟩
def yX7_stirs : MethodName := ⟨RX7, "stirs", "(II)I"⟩
def yX7_off : MethodName := ⟨RX7, "off", "(II)I"⟩
def yX7_change : MethodName := ⟨RX7, "change", "(II)I"⟩
def yX7_hottest : MethodName := ⟨RX7, "hottest", "(I)I"⟩
def yX7_slices : MethodName := ⟨RX7, "slices", "(II)I"⟩
def yX7_fits : MethodName := ⟨RX7, "fits", "(IIIII)I"⟩
def yX7_mice : MethodName := ⟨RX7, "mice", "(IIII)I"⟩
def yX7_drawn : MethodName := ⟨RX7, "drawn", "(III)I"⟩
def yX7_image : MethodName := ⟨RX7, "image", "(I)I"⟩
def yX7_restore : MethodName := ⟨RX7, "restore", "(I)I"⟩
def yX7_kind : MethodName := ⟨RX7, "kind", "(I)I"⟩
def yX7_as : MethodName := ⟨RX7, "as", "(II)I"⟩
def yX7_ask : MethodName := ⟨RX7, "ask", "(II)I"⟩
def yX7_trace : MethodName := ⟨RX7, "trace", "(I)I"⟩
def yX7_count : MethodName := ⟨RX7, "count", "(I)I"⟩
def yX7_status : MethodName := ⟨RX7, "status", "()I"⟩
def yX7_found : MethodName := ⟨RX7, "found", "(I)I"⟩
def yX7_unfound : MethodName := ⟨RX7, "unfound", "(I)I"⟩
def yX7_isBit : MethodName := ⟨RX7, "isBit", "(I)Z"⟩
def yX7_isSpan : MethodName := ⟨RX7, "isSpan", "(I)Z"⟩
def yX8_in : MethodName := ⟨RX8, "in", "(III)Z"⟩
def yX8_has : MethodName := ⟨RX8, "has", "(II)Z"⟩
def yX8_ones : MethodName := ⟨RX8, "ones", "(I)I"⟩
def yX8_lesser : MethodName := ⟨RX8, "lesser", "(II)I"⟩
def yX8_found : MethodName := ⟨RX8, "found", "(I)I"⟩
def yX8_well : MethodName := ⟨RX8, "well", "(I)I"⟩
def yX8_copies : MethodName := ⟨RX8, "copies", "([II[II)V"⟩
def yX8_isRow : MethodName := ⟨RX8, "isRow", "(I)Z"⟩
def yX8_isMissing : MethodName := ⟨RX8, "isMissing", "(I)Z"⟩
def yX8_cut : MethodName := ⟨RX8, "cut", "(II)I"⟩
def yX8_row : MethodName := ⟨RX8, "row", "(III)I"⟩
def yX8_set : MethodName := ⟨RX8, "set", "(III)I"⟩
def yX8_isPart : MethodName := ⟨RX8, "isPart", "(III)Z"⟩
def yX8_copy : MethodName := ⟨RX8, "copy", "(IIIII)I"⟩
def yX8_drop : MethodName := ⟨RX8, "drop", "(I)I"⟩
def yX8_feed : MethodName := ⟨RX8, "feed", "(I)I"⟩
def yX8_byteAt : MethodName := ⟨RX8, "byteAt", "(I)I"⟩
def yX8_advances : MethodName := ⟨RX8, "advances", "()V"⟩
def yX8_isWell : MethodName := ⟨RX8, "isWell", "()Z"⟩
def yX8_takes : MethodName := ⟨RX8, "takes", "(ZI)I"⟩
def yX8_figure : MethodName := ⟨RX8, "figure", "(II)I"⟩
def yX8_kindOf : MethodName := ⟨RX8, "kindOf", "(I)I"⟩
def yX8_follows : MethodName := ⟨RX8, "follows", "(II)I"⟩
def yX8_readsBasin : MethodName := ⟨RX8, "readsBasin", "()V"⟩
def yX8_must : MethodName := ⟨RX8, "must", "(Z)V"⟩
def yX8_hob : MethodName := ⟨RX8, "hob", "()I"⟩
def yX8_fault : MethodName := ⟨RX8, "fault", "()I"⟩
def yX8_isHob : MethodName := ⟨RX8, "isHob", "()Z"⟩
def yX8_isBasin : MethodName := ⟨RX8, "isBasin", "(I)Z"⟩
def yX8_isBurst : MethodName := ⟨RX8, "isBurst", "(I)Z"⟩
def yX8_glow : MethodName := ⟨RX8, "glow", "([II)I"⟩
def yX8_swelling : MethodName := ⟨RX8, "swelling", "([II)I"⟩
def yX8_areSo : MethodName := ⟨RX8, "areSo", "([II)I"⟩
def yX8_ripe : MethodName := ⟨RX8, "ripe", "([I)I"⟩
def yX8_inPlace : MethodName := ⟨RX8, "inPlace", "([II)I"⟩
def yX8_isOf : MethodName := ⟨RX8, "isOf", "([III)Z"⟩
def yX8_swells : MethodName := ⟨RX8, "swells", "([III)V"⟩
def yX8_bursts : MethodName := ⟨RX8, "bursts", "([II)V"⟩
def yX8_passes : MethodName := ⟨RX8, "passes", "([I)V"⟩
def yX8_stirsOne : MethodName := ⟨RX8, "stirsOne", "([II)V"⟩
def yX8_changes : MethodName := ⟨RX8, "changes", "([III)V"⟩
def yX8_notes : MethodName := ⟨RX8, "notes", "()V"⟩
def yX8_hours : MethodName := ⟨RX8, "hours", "(I)I"⟩
def yX8_stir : MethodName := ⟨RX8, "stir", "(I)I"⟩
def yX8_on : MethodName := ⟨RX8, "on", "(II)I"⟩
def yX8_swap : MethodName := ⟨RX8, "swap", "(II)I"⟩
def yX8_plums : MethodName := ⟨RX8, "plums", "(II)I"⟩
def yX8_heat : MethodName := ⟨RX8, "heat", "(I)I"⟩
def yX8_undo : MethodName := ⟨RX8, "undo", "()I"⟩
def yX8_basin : MethodName := ⟨RX8, "basin", "(II)I"⟩
def yX8_place : MethodName := ⟨RX8, "place", "(I)I"⟩
def yX8_goesOn : MethodName := ⟨RX8, "goesOn", "(I)V"⟩
def yX8_swell : MethodName := ⟨RX8, "swell", "(II)I"⟩
def yX8_burst : MethodName := ⟨RX8, "burst", "(I)I"⟩
def yX8_bursting : MethodName := ⟨RX8, "bursting", "(I)I"⟩
def yX8_first : MethodName := ⟨RX8, "first", "(I)I"⟩
def yX8_isNear : MethodName := ⟨RX8, "isNear", "(I)Z"⟩
def yX8_stirs : MethodName := ⟨RX8, "stirs", "(II)I"⟩
def yX8_noneBursts : MethodName := ⟨RX8, "noneBursts", "(I)Z"⟩
def yX8_off : MethodName := ⟨RX8, "off", "(II)I"⟩
def yX8_change : MethodName := ⟨RX8, "change", "(II)I"⟩
def yX8_hottest : MethodName := ⟨RX8, "hottest", "(I)I"⟩
def yX8_plumsIn : MethodName := ⟨RX8, "plumsIn", "(I)I"⟩
def yX8_slices : MethodName := ⟨RX8, "slices", "(II)I"⟩
def yX8_swellsSo : MethodName := ⟨RX8, "swellsSo", "(IIIII)Z"⟩
def yX8_fits : MethodName := ⟨RX8, "fits", "(IIIII)I"⟩
def yX8_mice : MethodName := ⟨RX8, "mice", "(IIII)I"⟩
def yX8_drawn : MethodName := ⟨RX8, "drawn", "(III)I"⟩
def yX8_image : MethodName := ⟨RX8, "image", "(I)I"⟩
def yX8_restore : MethodName := ⟨RX8, "restore", "(I)I"⟩
def yX8_kindIn : MethodName := ⟨RX8, "kindIn", "(I)I"⟩
def yX8_kind : MethodName := ⟨RX8, "kind", "(I)I"⟩
def yX8_as : MethodName := ⟨RX8, "as", "(II)I"⟩
def yX8_begins : MethodName := ⟨RX8, "begins", "(I)V"⟩
def yX8_plainMark : MethodName := ⟨RX8, "plainMark", "(I)I"⟩
def yX8_blackSize : MethodName := ⟨RX8, "blackSize", "(I)I"⟩
def yX8_plainSize : MethodName := ⟨RX8, "plainSize", "(I)I"⟩
def yX8_blackMark : MethodName := ⟨RX8, "blackMark", "(I)I"⟩
def yX8_ask : MethodName := ⟨RX8, "ask", "(II)I"⟩
def yX8_trace : MethodName := ⟨RX8, "trace", "(I)I"⟩
def yX8_count : MethodName := ⟨RX8, "count", "(I)I"⟩
def yX8_status : MethodName := ⟨RX8, "status", "()I"⟩
def yJ6_numberOfTrailingZeros_0f7a4 : MethodName := ⟨RJ6, "numberOfTrailingZeros", "(I)I"⟩
def yJ6_bitCount_0f7a4 : MethodName := ⟨RJ6, "bitCount", "(I)I"⟩
def yL_law : MethodName := ⟨RL, "law", "([I)Z"⟩
abbrev vwCl : List vw_C := [(RX0, TX0, 3), (RX1, TX1, 3), (RX2, TX2, 3), (RX3, TX3, 11), (RX4, TX4, 2), (RX5, TX5, 3), (RX6, TX6, 7), (RX7, TX7, 9), (RX8, TX8, 22)]
/-- the words that stay as they are when tables get warm -/
def hm_tbl : List Cond := lw_tbl.filter goodWord
theorem hm_in {i : Nat} {w : Cond} (h : lw_tbl[i]? = some w) (hg : goodWord w = true) : w ∈ hm_tbl := List.mem_filter.mpr ⟨List.mem_of_getElem? h, hg⟩
theorem hm_gd : ∀ w ∈ hm_tbl, w ∈ lw_tbl ∧ goodWord w = true := fun w h => List.mem_filter.mp h
end
section
/-! A FLAT MACHINE. All cells of the system stand in one list of shapes; memory is a function (cell, place) to an int; references are numbers of cells and never change. -/
abbrev hm_V : Type := Int32 ⊕ (Int64 ⊕ Nat)
abbrev hm_M : Type := Nat → Nat → Int32
abbrev hm_S : Type := (Bool × Nat) ⊕ (Nat × List (Option Nat))
abbrev hm_L : Type := List (Option hm_V)
/-- pc, next pc, the instruction; operation, three numbers, a list; place in the tables -/
abbrev hm_I : Type := Nat × Nat × Instr × Nat × Int × Nat × List (Int × Nat) × Nat
/-- name, code, locals, answer, static, arguments, places in the tables, instructions -/
abbrev hm_X : Type := MethodName × ByteArray × Nat × Option FieldType × Bool × Nat × List Nat × List hm_I
def hm_row (M : hm_M) (k : Nat) (f : Nat → Int32) : hm_M := fun q => if q = k then f else M q
def hm_up (M : hm_M) (k j : Nat) (v : Int32) : hm_M := hm_row M k (upd (M k) j v)
/-- the cells, in the order in which they are made -/
def hm_hob (k : Nat) : List hm_S := [.inr (3, [some (k + 1), some (k + 2), some (k + 3), some (k + 4), none, none, none, none, none, none, none]), .inl (false, 7), .inl (false, 7), .inl (false, 7), .inl (false, 7)]
def hm_sh : List hm_S := [
  .inr (7, [some 1, some 5, some 7, some 12, some 17, some 19, some 21, some 28, none]),
  .inr (5, [some 2, some 3, some 4]), .inl (false, 8), .inl (false, 8), .inl (false, 320),
  .inr (6, [some 6, none, none, none, none, none, none]), .inl (false, 90),
  .inr (3, [some 8, some 9, some 10, some 11, none, none, none, none, none, none, none]), .inl (false, 7), .inl (false, 7), .inl (false, 7), .inl (false, 7),
  .inr (3, [some 13, some 14, some 15, some 16, none, none, none, none, none, none, none]), .inl (false, 7), .inl (false, 7), .inl (false, 7), .inl (false, 7),
  .inr (0, [some 18, none, none]), .inl (false, 840),
  .inr (4, [some 20, none]), .inl (false, 70),
  .inr (2, [some 7, some 22, some 27]),
  .inr (3, [some 23, some 24, some 25, some 26, none, none, none, none, none, none, none]), .inl (false, 7), .inl (false, 7), .inl (false, 7), .inl (false, 7),
  .inl (false, 12),
  .inr (1, [some 7, some 29, none]), .inl (false, 16),
  .inr (8, [some 31, some 32, some 33, some 34, none, some 35, none, none, none, none, none, none, none, some 36, some 37, some 38, some 39, none, some 40, some 41, some 42, none]),
  .inl (false, 8), .inl (false, 8), .inl (false, 320), .inl (false, 40), .inl (false, 90), .inl (false, 53), .inl (false, 53), .inl (false, 53), .inl (false, 1272), .inl (false, 106), .inl (true, 2), .inl (false, 16)]
/-- the tables that nobody writes -/
def hm_ros : List (String × String × List Int32) := [
  ("PuddingHobs$Foresight", "LEAST_TRIED", [1, 0, 0, 5, 5]), ("PuddingHobs$Foresight", "MOST_TRIED", [5, 20, 9, 60, 60]),
  ("PuddingHobs$Asks", "PARENT", [-1, 0, 1, 1, 0, 4]), ("PuddingHobs$Asks", "SIZE_BODY", [10, 11, 12, 11, 13, 14]), ("PuddingHobs$Asks", "MARK_BODY", [20, 21, 24, 22, 23, 23])]
/-- an array of ints, or of booleans, that can be read: how long it is, what it holds -/
def hm_arr (M : hm_M) (z : Bool) (k : Nat) : Option (Nat × (Nat → Int32)) :=
  match hm_sh[k]? with
  | some (.inl (z', n)) => if z' = z then some (n, M k) else none
  | some (.inr _) => none
  | none =>
    if z = true then none else if k < 1000 then none else if k = 1005 then some ((M 1006 0).toNatClampNeg, M 1005)
    else match hm_ros[k - 1000]? with
      | some (_, _, l) => some (l.length, fun j => l.getD j 0)
      | none => none
def hm_fld (k : Nat) (ci : Int) (j : Nat) : Option (Option Nat) :=
  match hm_sh[k]? with
  | some (.inr (c, fl)) => if (c : Int) = ci then fl[j]? else none
  | _ => none
def hm_bin (b : Nat) (x y : Int32) : Int32 :=
  match b with
  | 0 => x + y
  | 1 => x - y
  | 2 => x * y
  | 3 => x &&& y
  | 4 => x ||| y
  | 5 => x ^^^ y
  | 6 => x <<< (y &&& 31)
  | 7 => x >>> (y &&& 31)
  | _ => (x.toUInt32 >>> (y.toUInt32 &&& Int32.toUInt32 31)).toInt32
def hm_un (b : Nat) (x : Int32) : Int32 :=
  match b with
  | 0 => -x
  | 1 => x.toInt8.toInt32
  | _ => x.toInt16.toInt32
def hm_cmp (b : Nat) (x y : Int32) : Bool :=
  match b with
  | 0 => decide (x = y)
  | 1 => decide (x ≠ y)
  | 2 => decide (x < y)
  | 3 => decide (y ≤ x)
  | 4 => decide (y < x)
  | _ => decide (x ≤ y)

def hm_swt (l : List (Int × Nat)) (d : Nat) (x : Int) : Nat :=
  match l with
  | [] => d
  | (k, t) :: r => if x = k then t else hm_swt r d x
/-- no long stands just ahead of the place -/
def hm_free (ls : hm_L) (i : Nat) : Bool :=
  match i with
  | 0 => true
  | j + 1 => match ls[j]? with
    | some (some (.inr (.inl _))) => false
    | _ => true
def hm_put (a : Int) (i : Nat) (v : hm_V) (ls : hm_L) : Option hm_L :=
  if i < ls.length then
    if hm_free ls i = true then
      match a, v with
      | 0, .inl x => some (ls.set i (some (.inl x)))
      | 1, .inr (.inr k) => some (ls.set i (some (.inr (.inr k))))
      | 2, .inr (.inl x) => if i + 1 < ls.length then some ((ls.set i (some (.inr (.inl x)))).set (i + 1) none) else none
      | _, _ => none
    else none
  else none
def hm_kind (a : Int) (v : hm_V) : Bool :=
  match a, v with
  | 0, .inl _ => true
  | 1, .inr (.inr _) => true
  | 2, .inr (.inl _) => true
  | _, _ => false
def hm_short (v : hm_V) : Bool :=
  match v with
  | .inr (.inl _) => false
  | _ => true
abbrev hm_R : Type := Nat × hm_L × List hm_V × hm_M
/-- one step that is no call and no answer -/
def hm_step (d nx : Nat) (op : Nat) (a : Int) (b : Nat) (l : List (Int × Nat)) (ls : hm_L) (st : List hm_V) (M : hm_M) : Option hm_R :=
  match op with
  | 0 => some (nx, ls, .inl (nI b) :: st, M)
  | 1 => match ls[b]? with
    | some (some v) => if hm_kind a v = true then some (nx, ls, v :: st, M) else none
    | _ => none
  | 2 => match st with
    | v :: r => match hm_put a b v ls with
      | some ls' => some (nx, ls', r, M)
      | none => none
    | _ => none
  | 3 => match ls[b]? with
    | some (some (.inl x)) => match hm_put 0 b (.inl (x + Int32.ofInt a)) ls with
      | some ls' => some (nx, ls', st, M)
      | none => none
    | _ => none
  | 4 => match st with
    | .inl y :: .inl x :: r => some (nx, ls, .inl (hm_bin b x y) :: r, M)
    | _ => none
  | 5 => match st with
    | .inl y :: .inl x :: r => if y = 0 then none else some (nx, ls, .inl (x / y) :: r, M)
    | _ => none
  | 6 => match st with
    | .inl y :: .inl x :: r => if y = 0 then none else some (nx, ls, .inl (x - x / y * y) :: r, M)
    | _ => none
  | 7 => match st with
    | .inl x :: r => some (nx, ls, .inl (hm_un b x) :: r, M)
    | _ => none
  | 8 => match st with
    | .inl x :: r => some (nx, ls, .inr (.inl x.toInt64) :: r, M)
    | _ => none
  | 9 => match st with
    | .inr (.inl x) :: r => some (nx, ls, .inl x.toInt32 :: r, M)
    | _ => none
  | 10 => some (nx, ls, .inr (.inl (lN b)) :: st, M)
  | 11 => match st with
    | .inr (.inl y) :: .inr (.inl x) :: r => some (nx, ls, .inr (.inl (x * y)) :: r, M)
    | _ => none
  | 12 => match st with
    | .inr (.inl y) :: .inr (.inl x) :: r => if y = 0 then none else some (nx, ls, .inr (.inl (x - x / y * y)) :: r, M)
    | _ => none
  | 13 => match st with
    | .inr (.inl y) :: .inr (.inl x) :: r => some (nx, ls, .inl (lg_cmp x y) :: r, M)
    | _ => none
  | 14 => match st with
    | .inl x :: r => some (if hm_cmp b x 0 = true then a.toNat else nx, ls, r, M)
    | _ => none
  | 15 => match st with
    | .inl y :: .inl x :: r => some (if hm_cmp b x y = true then a.toNat else nx, ls, r, M)
    | _ => none
  | 16 => some (a.toNat, ls, st, M)
  | 17 => match st with
    | .inl x :: r => some (hm_swt l a.toNat x.toInt, ls, r, M)
    | _ => none
  | 18 => match st with
    | .inr (.inr k) :: r => match hm_fld k a b with
      | some none => some (nx, ls, .inl (M k b) :: r, M)
      | some (some q) => some (nx, ls, .inr (.inr q) :: r, M)
      | none => none
    | _ => none
  | 19 => match st with
    | .inl x :: .inr (.inr k) :: r => match hm_fld k a b with
      | some none => some (nx, ls, r, hm_up M k b x)
      | _ => none
    | _ => none
  | 20 => match st with
    | .inl i :: .inr (.inr k) :: r => match hm_arr M (b == 1) k with
      | some (n, f) => if i < 0 ∨ n ≤ i.toNatClampNeg then none else some (nx, ls, .inl (f i.toNatClampNeg) :: r, M)
      | none => none
    | _ => none
  | 21 => match st with
    | .inl x :: .inl i :: .inr (.inr k) :: r => match hm_sh[k]? with
      | some (.inl (z, n)) => if z = (b == 1) then if (b = 1 ∧ ¬ (x = 0 ∨ x = 1)) ∨ i < 0 ∨ n ≤ i.toNatClampNeg then none else some (nx, ls, r, hm_up M k i.toNatClampNeg x) else none
      | _ => none
    | _ => none
  | 22 => match st with
    | .inr (.inr k) :: r => match hm_arr M false k with
      | some (n, _) => some (nx, ls, .inl (nI n) :: r, M)
      | none => none
    | _ => none
  | 23 => if b < 5 then some (nx, ls, .inr (.inr (1000 + b)) :: st, M) else none
  | 24 => match st with
    | v :: r => if hm_short v = true then some (nx, ls, v :: v :: r, M) else none
    | _ => none
  | 25 => match st with
    | v :: r => if hm_short v = true then some (nx, ls, r, M) else none
    | _ => none
  | 26 => match st with
    | v :: w :: r => if hm_short v = true ∧ hm_short w = true then some (nx, ls, v :: w :: v :: w :: r, M) else none
    | _ => none
  | 28 => match d, st with
    | _ + 1, [.inl n, .inl dp, .inr (.inr k1), .inl sp, .inr (.inr k0)] => match hm_sh[k0]?, hm_sh[k1]? with
      | some (.inl (false, n0)), some (.inl (false, n1)) => if sp < 0 ∨ dp < 0 ∨ n < 0 ∨ n0 < sp.toNatClampNeg + n.toNatClampNeg ∨ n1 < dp.toNatClampNeg + n.toNatClampNeg then none
        else some (nx, ls, [], hm_row M k1 (va_cpy (M k0) (M k1) sp.toNatClampNeg dp.toNatClampNeg n.toNatClampNeg))
      | _, _ => none
    | _, _ => none
  | 31 => some (nx, ls, .inl (Int32.ofInt a) :: st, M)
  | 32 => match d, st with
    | _ + 1, .inl y :: .inl x :: r => if r.length ≤ 4 then some (nx, ls, .inl (if x < y then y else x) :: r, M) else none
    | _, _ => none
  | 33 => match d, st with
    | _ + 1, .inl y :: .inl x :: r => if r.length ≤ 4 then some (nx, ls, .inl (if y < x then y else x) :: r, M) else none
    | _, _ => none
  | _ => none
def hm_sl (v : hm_V) : hm_L :=
  match v with
  | .inl x => [some (.inl x)]
  | .inr (.inl x) => [some (.inr (.inl x)), none]
  | .inr (.inr k) => [some (.inr (.inr k))]
def hm_ent (n : Nat) (vs : List hm_V) : hm_L := vs.flatMap hm_sl ++ List.replicate (n - (vs.flatMap hm_sl).length) none
/-- the receiver is of the class that the method is told in -/
def hm_recv (y : MethodName) (st : Bool) (vs : List hm_V) : Bool :=
  if st = true then true else match vs with
    | .inr (.inr k) :: _ => match hm_sh[k]? with
      | some (.inr (c, _)) => match vwCl[c]? with
        | some q => decide (q.1 = y.cls)
        | none => false
      | _ => false
    | _ => false
def hm_fl (own : String) (i : Nat) (q : vw_C) (j lk : Nat) : Bool := decide (j < q.2.2) && (decide (lw_tbl[lk]? = some (.fieldLink own i (q.2.1 j).1 (q.2.1 j).2.1 (q.2.1 j).2.2.1)) || decide (lw_tbl[lk]? = some (.fieldLinkNest own i (q.2.1 j).1 (q.2.1 j).2.1 (q.2.1 j).2.2.1 "PuddingHobs")))
/-- does the operation tell what the instruction does: operation by operation -/
def hm_k0 (own : String) (pc nx : Nat) (ins : Instr) (v : Int32) (lk : Nat) : Bool :=
  match ins with
  | .iconst n => decide (Int32.ofInt n = v) && decide (nx = pc + 1)
  | .bipush n => decide ((Int8.ofInt n).toInt32 = v) && decide (nx = pc + 2)
  | .sipush n => decide ((Int16.ofInt n).toInt32 = v) && decide (nx = pc + 3)
  | .ldc i => decide (lw_tbl[lk]? = some (.constant own i v)) && decide (nx = pc + 2)
  | .ldc_w i => decide (lw_tbl[lk]? = some (.constant own i v)) && decide (nx = pc + 3)
  | _ => false
def hm_k1 (pc nx : Nat) (ins : Instr) (a : Int) (b : Nat) : Bool :=
  match ins with
  | .iload i => decide (i = b) && decide (a = 0) && decide (nx = pc + 2)
  | .iload_n i => decide ((i : Nat) = b) && decide (a = 0) && decide (nx = pc + 1)
  | .aload i => decide (i = b) && decide (a = 1) && decide (nx = pc + 2)
  | .aload_n i => decide ((i : Nat) = b) && decide (a = 1) && decide (nx = pc + 1)
  | .lload i => decide (i = b) && decide (a = 2) && decide (nx = pc + 2)
  | .lload_n i => decide ((i : Nat) = b) && decide (a = 2) && decide (nx = pc + 1)
  | _ => false
def hm_k2 (pc nx : Nat) (ins : Instr) (a : Int) (b : Nat) : Bool :=
  match ins with
  | .istore i => decide (i = b) && decide (a = 0) && decide (nx = pc + 2)
  | .istore_n i => decide ((i : Nat) = b) && decide (a = 0) && decide (nx = pc + 1)
  | .astore i => decide (i = b) && decide (a = 1) && decide (nx = pc + 2)
  | .astore_n i => decide ((i : Nat) = b) && decide (a = 1) && decide (nx = pc + 1)
  | .lstore i => decide (i = b) && decide (a = 2) && decide (nx = pc + 2)
  | .lstore_n i => decide ((i : Nat) = b) && decide (a = 2) && decide (nx = pc + 1)
  | _ => false
def hm_bI (b : Nat) : Instr :=
  match b with
  | 0 => .iadd
  | 1 => .isub
  | 2 => .imul
  | 3 => .iand
  | 4 => .ior
  | 5 => .ixor
  | 6 => .ishl
  | 7 => .ishr
  | _ => .iushr
def hm_uI (b : Nat) : Instr :=
  match b with
  | 0 => .ineg
  | 1 => .i2b
  | _ => .i2s
def hm_cI (b : Nat) : Jvm.ClassFile.Cond :=
  match b with
  | 0 => .eq
  | 1 => .ne
  | 2 => .lt
  | 3 => .ge
  | 4 => .gt
  | _ => .le
def hm_k10 (own : String) (pc nx : Nat) (ins : Instr) (b lk : Nat) : Bool :=
  match ins with
  | .lconst n => decide (Int64.ofNat (n : Nat) = lN b) && decide (nx = pc + 1)
  | .ldc2_w i => decide (lw_tbl[lk]? = some (.constantLong own i (lN b))) && decide (nx = pc + 3)
  | _ => false
def hm_k17 (pc : Nat) (ins : Instr) (a : Int) (l : List (Int × Nat)) : Bool :=
  match ins with
  | .lookupswitch df ps => decide ((pc : Int) + df = (a.toNat : Int)) && decide (l.map (fun q => (q.1, (q.2 : Int))) = ps.toList.map (fun q => (q.1, (pc : Int) + q.2))) && (ps.toList.zip (ps.toList.drop 1)).all (fun (x, y) => x.1 < y.1)
  | .tableswitch df lo hi os => decide ((pc : Int) + df = (a.toNat : Int)) && decide (l.map (fun q => (q.1, (q.2 : Int))) = os.toList.zipIdx.map (fun q => (lo + (q.2 : Int), (pc : Int) + q.1))) && decide (hi = lo + (os.size : Int) - 1)
  | _ => false
def hm_k18 (own : String) (ins : Instr) (a : Int) (b lk : Nat) : Bool :=
  match ins with
  | .getfield i => (match vwCl[a.toNat]? with
    | some q => decide ((a.toNat : Int) = a) && hm_fl own i q b lk
    | none => false)
  | _ => false
def hm_k19 (own : String) (ins : Instr) (a : Int) (b lk : Nat) : Bool :=
  match ins with
  | .putfield i => (match vwCl[a.toNat]? with
    | some q => decide ((a.toNat : Int) = a) && hm_fl own i q b lk && decide ((q.2.1 b).2.2.2 = false) && decide ((q.2.1 b).2.2.1 = "I")
    | none => false)
  | _ => false
def hm_k23 (own : String) (ins : Instr) (b lk : Nat) : Bool :=
  match ins with
  | .getstatic i => (match hm_ros[b]? with
    | some (C, n, _) => decide (lw_tbl[lk]? = some (.fieldLink own i C n "[I"))
    | none => false)
  | _ => false
def hm_k27 (tb : List (MethodName × Nat × Bool)) (own : String) (ins : Instr) (b lk : Nat) : Bool :=
  match tb[b]? with
  | none => false
  | some (y, _, s) => match ins with
    | .invokevirtual i => decide (s = false) && decide (lw_tbl[lk]? = some (.methodLink own i y))
    | .invokestatic i => decide (s = true) && decide (lw_tbl[lk]? = some (.methodLink own i y))
    | _ => false
def hm_k28 (own : String) (ins : Instr) (y : MethodName) (lk : Nat) : Bool :=
  match ins with
  | .invokestatic i => decide (lw_tbl[lk]? = some (.methodLink own i y))
  | _ => false
def hm_lk (tb : List (MethodName × Nat × Bool)) (own : String) (pc nx : Nat) (ins : Instr) (op : Nat) (a : Int) (b : Nat) (l : List (Int × Nat)) (lk : Nat) : Bool :=
  match op with
  | 0 => hm_k0 own pc nx ins (nI b) lk
  | 1 => hm_k1 pc nx ins a b
  | 2 => hm_k2 pc nx ins a b
  | 3 => decide (ins = .iinc b a) && decide (nx = pc + 3)
  | 4 => decide (ins = hm_bI b) && decide (b ≤ 8) && decide (nx = pc + 1)
  | 5 => decide (ins = .idiv) && decide (nx = pc + 1)
  | 6 => decide (ins = .irem) && decide (nx = pc + 1)
  | 7 => decide (ins = hm_uI b) && decide (b ≤ 2) && decide (nx = pc + 1)
  | 8 => decide (ins = .i2l) && decide (nx = pc + 1)
  | 9 => decide (ins = .l2i) && decide (nx = pc + 1)
  | 10 => hm_k10 own pc nx ins b lk
  | 11 => decide (ins = .lmul) && decide (nx = pc + 1)
  | 12 => decide (ins = .lrem) && decide (nx = pc + 1)
  | 13 => decide (ins = .lcmp) && decide (nx = pc + 1)
  | 14 => decide (ins = .ifCond (hm_cI b) ((a.toNat : Int) - (pc : Int))) && decide (b ≤ 5) && decide (nx = pc + 3)
  | 15 => decide (ins = .if_icmp (hm_cI b) ((a.toNat : Int) - (pc : Int))) && decide (b ≤ 5) && decide (nx = pc + 3)
  | 16 => decide (ins = .goto ((a.toNat : Int) - (pc : Int))) && decide (nx = pc + 3)
  | 17 => hm_k17 pc ins a l
  | 18 => hm_k18 own ins a b lk && decide (nx = pc + 3)
  | 19 => hm_k19 own ins a b lk && decide (nx = pc + 3)
  | 20 => decide (ins = if b = 1 then .baload else .iaload) && decide (nx = pc + 1)
  | 21 => decide (ins = if b = 1 then .bastore else .iastore) && decide (nx = pc + 1)
  | 22 => decide (ins = .arraylength) && decide (nx = pc + 1)
  | 23 => hm_k23 own ins b lk && decide (nx = pc + 3)
  | 24 => decide (ins = .dup) && decide (nx = pc + 1)
  | 25 => decide (ins = .pop) && decide (nx = pc + 1)
  | 26 => decide (ins = .dup2) && decide (nx = pc + 1)
  | 27 => hm_k27 tb own ins b lk && decide (nx = pc + 3)
  | 28 => hm_k28 own ins arraycopyName lk && decide (nx = pc + 3)
  | 29 => decide (ins = .ireturn) && decide (nx = pc + 1)
  | 30 => decide (ins = .return_) && decide (nx = pc + 1)
  | 31 => hm_k0 own pc nx ins (Int32.ofInt a) lk
  | 32 => hm_k28 own ins Lib.Math.max.name lk && decide (nx = pc + 3)
  | 33 => hm_k28 own ins Lib.Math.min.name lk && decide (nx = pc + 3)
  | _ => false
def hm_chkI (tb : List (MethodName × Nat × Bool)) (own : String) (cc : ByteArray) (r : Option FieldType) (q : hm_I) : Bool :=
  match q with
  | (pc, nx, ins, op, a, b, l, lk) => decide (decode cc pc = .ok (ins, nx - pc)) && hm_lk tb own pc nx ins op a b l lk && (match op with
    | 29 => (match b with | 0 => decide (r = some .int) | 1 => decide (r = some .boolean) | _ => false)
    | 30 => decide (r = none)
    | _ => true)
/-- a method's own words stand in the tables -/
def hm_chkM (t : hm_X) : Bool :=
  match t with
  | (y, cc, mx, r, st, n, [kc, ki, km, ks], _) => decide (lw_tbl[kc]? = some (.code y cc mx r)) && decide (lw_tbl[ki]? = some (.initialized y.cls)) && decide (lw_tbl[km]? = some (if st = true then .static y else .instanceMethod y)) && (st || decide (lw_tbl[ks]? = some (.selects y.cls y y)))
    && plainName y.cls && decide (y.cls ≠ "java/lang/invoke/MethodHandle") && decide (y.cls ≠ "java/lang/invoke/VarHandle") && decide ((parseMethodDescriptor y.desc).map (fun d => d.parameters.length) = some (if st = true then n else n - 1)) && decide (mx ≤ 20) && (st || decide (0 < n))
  | _ => false
end
section
def hm_P0 : List hm_I := [
  (0, 1, .aload_n 1, 1, 1, 1, [], 0),
  (1, 2, .aload_n 0, 1, 1, 0, [], 0),
  (2, 5, .getfield 11, 18, 0, 0, [], 192),
  (5, 6, .aload_n 0, 1, 1, 0, [], 0),
  (6, 9, .getfield 15, 18, 0, 1, [], 193),
  (9, 11, .bipush 35, 0, 0, 35, [], 0),
  (11, 12, .imul, 4, 0, 2, [], 0),
  (12, 15, .invokevirtual 19, 27, 0, 39, [], 447),
  (15, 16, .aload_n 0, 1, 1, 0, [], 0),
  (16, 17, .aload_n 0, 1, 1, 0, [], 0),
  (17, 20, .getfield 15, 18, 0, 1, [], 193),
  (20, 21, .iconst 1, 0, 0, 1, [], 0),
  (21, 22, .iadd, 4, 0, 0, [], 0),
  (22, 24, .bipush 24, 0, 0, 24, [], 0),
  (24, 25, .irem, 6, 0, 0, [], 0),
  (25, 28, .putfield 15, 19, 0, 1, [], 193),
  (28, 29, .aload_n 0, 1, 1, 0, [], 0),
  (29, 31, .bipush 24, 0, 0, 24, [], 0),
  (31, 32, .aload_n 0, 1, 1, 0, [], 0),
  (32, 35, .getfield 23, 18, 0, 2, [], 194),
  (35, 36, .iconst 1, 0, 0, 1, [], 0),
  (36, 37, .iadd, 4, 0, 0, [], 0),
  (37, 40, .invokestatic 26, 33, 0, 0, [], 451),
  (40, 43, .putfield 23, 19, 0, 2, [], 194),
  (43, 44, .return_, 30, 0, 0, [], 0)]
/-- PuddingHobs$Acts.keep(LPuddingHobs$Hob;)V -/
def hm_T0 : hm_X := (yX0_keep, prog_2_method_2_code, 2, none, false, 2, [446, 60, 444, 445], hm_P0)
def hm_P1 : List hm_I := [
  (0, 1, .aload_n 0, 1, 1, 0, [], 0),
  (1, 4, .getfield 23, 18, 0, 2, [], 194),
  (4, 7, .ifCond .ne 5, 14, 9, 1, [], 0),
  (7, 8, .iconst 0, 0, 0, 0, [], 0),
  (8, 9, .ireturn, 29, 0, 1, [], 0),
  (9, 10, .aload_n 0, 1, 1, 0, [], 0),
  (10, 11, .aload_n 0, 1, 1, 0, [], 0),
  (11, 14, .getfield 15, 18, 0, 1, [], 193),
  (14, 16, .bipush 24, 0, 0, 24, [], 0),
  (16, 17, .iadd, 4, 0, 0, [], 0),
  (17, 18, .iconst 1, 0, 0, 1, [], 0),
  (18, 19, .isub, 4, 0, 1, [], 0),
  (19, 21, .bipush 24, 0, 0, 24, [], 0),
  (21, 22, .irem, 6, 0, 0, [], 0),
  (22, 25, .putfield 15, 19, 0, 1, [], 193),
  (25, 26, .aload_n 0, 1, 1, 0, [], 0),
  (26, 27, .dup, 24, 0, 0, [], 0),
  (27, 30, .getfield 23, 18, 0, 2, [], 194),
  (30, 31, .iconst 1, 0, 0, 1, [], 0),
  (31, 32, .isub, 4, 0, 1, [], 0),
  (32, 35, .putfield 23, 19, 0, 2, [], 194),
  (35, 36, .aload_n 1, 1, 1, 1, [], 0),
  (36, 37, .aload_n 0, 1, 1, 0, [], 0),
  (37, 40, .getfield 11, 18, 0, 0, [], 192),
  (40, 41, .aload_n 0, 1, 1, 0, [], 0),
  (41, 44, .getfield 15, 18, 0, 1, [], 193),
  (44, 46, .bipush 35, 0, 0, 35, [], 0),
  (46, 47, .imul, 4, 0, 2, [], 0),
  (47, 50, .invokevirtual 32, 27, 0, 40, [], 554),
  (50, 51, .iconst 1, 0, 0, 1, [], 0),
  (51, 52, .ireturn, 29, 0, 1, [], 0)]
/-- PuddingHobs$Acts.takeBack(LPuddingHobs$Hob;)Z -/
def hm_T1 : hm_X := (yX0_takeBack, prog_2_method_3_code, 2, (some .boolean), false, 2, [553, 60, 551, 552], hm_P1)
def hm_P2 : List hm_I := [
  (0, 1, .aload_n 0, 1, 1, 0, [], 0),
  (1, 2, .iconst 0, 0, 0, 0, [], 0),
  (2, 5, .putfield 23, 19, 0, 2, [], 194),
  (5, 6, .return_, 30, 0, 0, [], 0)]
/-- PuddingHobs$Acts.forgetAll()V -/
def hm_T2 : hm_X := (yX0_forgetAll, prog_2_method_4_code, 1, none, false, 1, [425, 60, 423, 424], hm_P2)
def hm_P3 : List hm_I := [
  (0, 1, .aload_n 0, 1, 1, 0, [], 0),
  (1, 4, .getfield 23, 18, 0, 2, [], 194),
  (4, 5, .ireturn, 29, 0, 0, [], 0)]
/-- PuddingHobs$Acts.left()I -/
def hm_T3 : hm_X := (yX0_left, prog_2_method_5_code, 1, (some .int), false, 1, [561, 60, 559, 560], hm_P3)
def hm_P4 : List hm_I := [
  (0, 1, .iload_n 0, 1, 0, 0, [], 0),
  (1, 2, .istore_n 2, 2, 0, 2, [], 0),
  (2, 3, .iconst 0, 0, 0, 0, [], 0),
  (3, 4, .istore_n 3, 2, 0, 3, [], 0),
  (4, 5, .iload_n 3, 1, 0, 3, [], 0),
  (5, 8, .getstatic 19, 23, 0, 2, [], 780),
  (8, 9, .arraylength, 22, 0, 0, [], 0),
  (9, 12, .if_icmp .ge 34, 15, 43, 3, [], 0),
  (12, 13, .iload_n 2, 1, 0, 2, [], 0),
  (13, 16, .ifCond .lt 30, 14, 43, 2, [], 0),
  (16, 17, .iload_n 2, 1, 0, 2, [], 0),
  (17, 20, .getstatic 19, 23, 0, 2, [], 780),
  (20, 21, .arraylength, 22, 0, 0, [], 0),
  (21, 24, .if_icmp .ge 22, 15, 43, 3, [], 0),
  (24, 25, .iload_n 2, 1, 0, 2, [], 0),
  (25, 26, .iload_n 1, 1, 0, 1, [], 0),
  (26, 29, .if_icmp .ne 5, 15, 31, 1, [], 0),
  (29, 30, .iconst 1, 0, 0, 1, [], 0),
  (30, 31, .ireturn, 29, 0, 1, [], 0),
  (31, 34, .getstatic 19, 23, 0, 2, [], 780),
  (34, 35, .iload_n 2, 1, 0, 2, [], 0),
  (35, 36, .iaload, 20, 0, 0, [], 0),
  (36, 37, .istore_n 2, 2, 0, 2, [], 0),
  (37, 40, .iinc 3 1, 3, 1, 3, [], 0),
  (40, 43, .goto (-36), 16, 4, 0, [], 0),
  (43, 44, .iconst 0, 0, 0, 0, [], 0),
  (44, 45, .ireturn, 29, 0, 1, [], 0)]
/-- PuddingHobs$Asks.isA(II)Z -/
def hm_T4 : hm_X := (yX1_isA, prog_3_method_2_code, 4, (some .boolean), true, 2, [779, 63, 778, 0], hm_P4)
def hm_P5 : List hm_I := [
  (0, 1, .aload_n 0, 1, 1, 0, [], 0),
  (1, 2, .iconst 0, 0, 0, 0, [], 0),
  (2, 5, .putfield 22, 19, 1, 2, [], 242),
  (5, 6, .aload_n 0, 1, 1, 0, [], 0),
  (6, 7, .aload_n 0, 1, 1, 0, [], 0),
  (7, 8, .iload_n 2, 1, 0, 2, [], 0),
  (8, 9, .iload_n 1, 1, 0, 1, [], 0),
  (9, 12, .invokevirtual 26, 27, 0, 7, [], 790),
  (12, 13, .iload_n 1, 1, 0, 1, [], 0),
  (13, 14, .iconst 0, 0, 0, 0, [], 0),
  (14, 17, .invokevirtual 30, 27, 0, 8, [], 798),
  (17, 18, .ireturn, 29, 0, 0, [], 0)]
/-- PuddingHobs$Asks.answerAnew(II)I -/
def hm_T5 : hm_X := (yX1_answerAnew, prog_3_method_3_code, 3, (some .int), false, 3, [789, 63, 787, 788], hm_P5)
def hm_P6 : List hm_I := [
  (0, 1, .iload_n 1, 1, 0, 1, [], 0),
  (1, 4, .ifCond .lt 20, 14, 21, 2, [], 0),
  (4, 5, .iload_n 1, 1, 0, 1, [], 0),
  (5, 6, .aload_n 0, 1, 1, 0, [], 0),
  (6, 9, .getfield 22, 18, 1, 2, [], 242),
  (9, 12, .if_icmp .ge 12, 15, 21, 3, [], 0),
  (12, 13, .aload_n 0, 1, 1, 0, [], 0),
  (13, 16, .getfield 11, 18, 1, 1, [], 241),
  (16, 17, .iload_n 1, 1, 0, 1, [], 0),
  (17, 18, .iaload, 20, 0, 0, [], 0),
  (18, 21, .goto 5, 16, 23, 0, [], 0),
  (21, 23, .ldc 34, 31, (-1000000), 0, [], 814),
  (23, 24, .ireturn, 29, 0, 0, [], 0)]
/-- PuddingHobs$Asks.traced(I)I -/
def hm_T6 : hm_X := (yX1_traced, prog_3_method_4_code, 2, (some .int), false, 2, [813, 63, 811, 812], hm_P6)
def hm_P7 : List hm_I := [
  (0, 1, .aload_n 0, 1, 1, 0, [], 0),
  (1, 4, .getfield 15, 18, 1, 0, [], 240),
  (4, 7, .getfield 35, 18, 3, 0, [], 128),
  (7, 8, .iload_n 2, 1, 0, 2, [], 0),
  (8, 9, .iaload, 20, 0, 0, [], 0),
  (9, 10, .istore_n 3, 2, 0, 3, [], 0),
  (10, 11, .iload_n 1, 1, 0, 1, [], 0),
  (11, 14, .ifCond .ne 11, 14, 22, 1, [], 0),
  (14, 17, .getstatic 40, 23, 0, 3, [], 794),
  (17, 18, .iload_n 3, 1, 0, 3, [], 0),
  (18, 19, .iaload, 20, 0, 0, [], 0),
  (19, 22, .goto 8, 16, 27, 0, [], 0),
  (22, 25, .getstatic 43, 23, 0, 4, [], 796),
  (25, 26, .iload_n 3, 1, 0, 3, [], 0),
  (26, 27, .iaload, 20, 0, 0, [], 0),
  (27, 28, .ireturn, 29, 0, 0, [], 0)]
/-- PuddingHobs$Asks.bodyOf(II)I -/
def hm_T7 : hm_X := (yX1_bodyOf, prog_3_method_5_code, 4, (some .int), false, 3, [793, 63, 792, 26], hm_P7)
def hm_P8 : List hm_I := [
  (0, 1, .iload_n 3, 1, 0, 3, [], 0),
  (1, 3, .bipush 16, 0, 0, 16, [], 0),
  (3, 6, .if_icmp .le 5, 15, 8, 5, [], 0),
  (6, 7, .iconst 0, 0, 0, 0, [], 0),
  (7, 8, .ireturn, 29, 0, 0, [], 0),
  (8, 9, .aload_n 0, 1, 1, 0, [], 0),
  (9, 10, .iload_n 1, 1, 0, 1, [], 0),
  (10, 13, .invokevirtual 46, 27, 0, 9, [], 802),
  (13, 14, .iload_n 3, 1, 0, 3, [], 0),
  (14, 15, .iconst 1, 0, 0, 1, [], 0),
  (15, 16, .iadd, 4, 0, 0, [], 0),
  (16, 18, .istore 4, 2, 0, 4, [], 0),
  (18, 19, .iload_n 1, 1, 0, 1, [], 0),
  (19, 92, .tableswitch 215 10 24 #[73, 83, 107, 118, 131, 215, 215, 215, 215, 215, 143, 145, 165, 179, 203], 17, 234, 0, [(10, 92), (11, 102), (12, 126), (13, 137), (14, 150), (15, 234), (16, 234), (17, 234), (18, 234), (19, 234), (20, 162), (21, 164), (22, 184), (23, 198), (24, 222)], 0),
  (92, 93, .aload_n 0, 1, 1, 0, [], 0),
  (93, 96, .getfield 15, 18, 1, 0, [], 240),
  (96, 99, .getfield 50, 18, 3, 1, [], 132),
  (99, 100, .iload_n 2, 1, 0, 2, [], 0),
  (100, 101, .iaload, 20, 0, 0, [], 0),
  (101, 102, .ireturn, 29, 0, 0, [], 0),
  (102, 103, .aload_n 0, 1, 1, 0, [], 0),
  (103, 105, .bipush 10, 0, 0, 10, [], 0),
  (105, 106, .iload_n 2, 1, 0, 2, [], 0),
  (106, 108, .iload 4, 1, 0, 4, [], 0),
  (108, 111, .invokevirtual 30, 27, 0, 8, [], 798),
  (111, 112, .aload_n 0, 1, 1, 0, [], 0),
  (112, 113, .aload_n 0, 1, 1, 0, [], 0),
  (113, 114, .iconst 1, 0, 0, 1, [], 0),
  (114, 115, .iload_n 2, 1, 0, 2, [], 0),
  (115, 118, .invokevirtual 26, 27, 0, 7, [], 790),
  (118, 119, .iload_n 2, 1, 0, 2, [], 0),
  (119, 121, .iload 4, 1, 0, 4, [], 0),
  (121, 124, .invokevirtual 30, 27, 0, 8, [], 798),
  (124, 125, .iadd, 4, 0, 0, [], 0),
  (125, 126, .ireturn, 29, 0, 0, [], 0),
  (126, 127, .aload_n 0, 1, 1, 0, [], 0),
  (127, 129, .bipush 11, 0, 0, 11, [], 0),
  (129, 130, .iload_n 2, 1, 0, 2, [], 0),
  (130, 132, .iload 4, 1, 0, 4, [], 0),
  (132, 135, .invokevirtual 30, 27, 0, 8, [], 798),
  (135, 136, .ineg, 7, 0, 0, [], 0),
  (136, 137, .ireturn, 29, 0, 0, [], 0),
  (137, 138, .aload_n 0, 1, 1, 0, [], 0),
  (138, 140, .bipush 10, 0, 0, 10, [], 0),
  (140, 141, .iload_n 2, 1, 0, 2, [], 0),
  (141, 143, .iload 4, 1, 0, 4, [], 0),
  (143, 146, .invokevirtual 30, 27, 0, 8, [], 798),
  (146, 148, .bipush 100, 0, 0, 100, [], 0),
  (148, 149, .isub, 4, 0, 1, [], 0),
  (149, 150, .ireturn, 29, 0, 0, [], 0),
  (150, 151, .iconst 2, 0, 0, 2, [], 0),
  (151, 152, .aload_n 0, 1, 1, 0, [], 0),
  (152, 154, .bipush 13, 0, 0, 13, [], 0),
  (154, 155, .iload_n 2, 1, 0, 2, [], 0),
  (155, 157, .iload 4, 1, 0, 4, [], 0),
  (157, 160, .invokevirtual 30, 27, 0, 8, [], 798),
  (160, 161, .imul, 4, 0, 2, [], 0),
  (161, 162, .ireturn, 29, 0, 0, [], 0),
  (162, 163, .iload_n 2, 1, 0, 2, [], 0),
  (163, 164, .ireturn, 29, 0, 0, [], 0),
  (164, 165, .aload_n 0, 1, 1, 0, [], 0),
  (165, 167, .bipush 20, 0, 0, 20, [], 0),
  (167, 168, .iload_n 2, 1, 0, 2, [], 0),
  (168, 170, .iload 4, 1, 0, 4, [], 0),
  (170, 173, .invokevirtual 30, 27, 0, 8, [], 798),
  (173, 174, .aload_n 0, 1, 1, 0, [], 0),
  (174, 177, .getfield 15, 18, 1, 0, [], 240),
  (177, 180, .getfield 53, 18, 3, 2, [], 137),
  (180, 181, .iload_n 2, 1, 0, 2, [], 0),
  (181, 182, .iaload, 20, 0, 0, [], 0),
  (182, 183, .iadd, 4, 0, 0, [], 0),
  (183, 184, .ireturn, 29, 0, 0, [], 0),
  (184, 185, .aload_n 0, 1, 1, 0, [], 0),
  (185, 187, .bipush 21, 0, 0, 21, [], 0),
  (187, 188, .iload_n 2, 1, 0, 2, [], 0),
  (188, 190, .iload 4, 1, 0, 4, [], 0),
  (190, 193, .invokevirtual 30, 27, 0, 8, [], 798),
  (193, 196, .sipush 1000, 0, 0, 1000, [], 0),
  (196, 197, .isub, 4, 0, 1, [], 0),
  (197, 198, .ireturn, 29, 0, 0, [], 0),
  (198, 199, .aload_n 0, 1, 1, 0, [], 0),
  (199, 201, .bipush 20, 0, 0, 20, [], 0),
  (201, 202, .iload_n 2, 1, 0, 2, [], 0),
  (202, 204, .iload 4, 1, 0, 4, [], 0),
  (204, 207, .invokevirtual 30, 27, 0, 8, [], 798),
  (207, 208, .aload_n 0, 1, 1, 0, [], 0),
  (208, 209, .aload_n 0, 1, 1, 0, [], 0),
  (209, 210, .iconst 0, 0, 0, 0, [], 0),
  (210, 211, .iload_n 2, 1, 0, 2, [], 0),
  (211, 214, .invokevirtual 26, 27, 0, 7, [], 790),
  (214, 215, .iload_n 2, 1, 0, 2, [], 0),
  (215, 217, .iload 4, 1, 0, 4, [], 0),
  (217, 220, .invokevirtual 30, 27, 0, 8, [], 798),
  (220, 221, .isub, 4, 0, 1, [], 0),
  (221, 222, .ireturn, 29, 0, 0, [], 0),
  (222, 223, .iconst 2, 0, 0, 2, [], 0),
  (223, 224, .aload_n 0, 1, 1, 0, [], 0),
  (224, 226, .bipush 21, 0, 0, 21, [], 0),
  (226, 227, .iload_n 2, 1, 0, 2, [], 0),
  (227, 229, .iload 4, 1, 0, 4, [], 0),
  (229, 232, .invokevirtual 30, 27, 0, 8, [], 798),
  (232, 233, .imul, 4, 0, 2, [], 0),
  (233, 234, .ireturn, 29, 0, 0, [], 0),
  (234, 235, .iconst 0, 0, 0, 0, [], 0),
  (235, 236, .ireturn, 29, 0, 0, [], 0)]
/-- PuddingHobs$Asks.begin(III)I -/
def hm_T8 : hm_X := (yX1_begin, prog_3_method_6_code, 5, (some .int), false, 4, [801, 63, 800, 27], hm_P8)
def hm_P9 : List hm_I := [
  (0, 1, .aload_n 0, 1, 1, 0, [], 0),
  (1, 4, .getfield 22, 18, 1, 2, [], 242),
  (4, 6, .bipush 16, 0, 0, 16, [], 0),
  (6, 9, .if_icmp .ge 23, 15, 29, 3, [], 0),
  (9, 10, .aload_n 0, 1, 1, 0, [], 0),
  (10, 13, .getfield 11, 18, 1, 1, [], 241),
  (13, 14, .aload_n 0, 1, 1, 0, [], 0),
  (14, 17, .getfield 22, 18, 1, 2, [], 242),
  (17, 18, .iload_n 1, 1, 0, 1, [], 0),
  (18, 19, .iastore, 21, 0, 0, [], 0),
  (19, 20, .aload_n 0, 1, 1, 0, [], 0),
  (20, 21, .dup, 24, 0, 0, [], 0),
  (21, 24, .getfield 22, 18, 1, 2, [], 242),
  (24, 25, .iconst 1, 0, 0, 1, [], 0),
  (25, 26, .iadd, 4, 0, 0, [], 0),
  (26, 29, .putfield 22, 19, 1, 2, [], 242),
  (29, 30, .return_, 30, 0, 0, [], 0)]
/-- PuddingHobs$Asks.leave(I)V -/
def hm_T9 : hm_X := (yX1_leave, prog_3_method_7_code, 2, none, false, 2, [805, 63, 804, 28], hm_P9)
def hm_P10 : List hm_I := [
  (0, 1, .aload_n 0, 1, 1, 0, [], 0),
  (1, 4, .invokevirtual 25, 27, 0, 27, [], 580),
  (4, 5, .aload_n 0, 1, 1, 0, [], 0),
  (5, 6, .iload_n 2, 1, 0, 2, [], 0),
  (6, 9, .invokevirtual 28, 27, 0, 28, [], 585),
  (9, 10, .aload_n 0, 1, 1, 0, [], 0),
  (10, 13, .getfield 12, 18, 2, 1, [], 224),
  (13, 16, .getfield 32, 18, 3, 2, [], 136),
  (16, 17, .iload_n 1, 1, 0, 1, [], 0),
  (17, 18, .iaload, 20, 0, 0, [], 0),
  (18, 19, .ireturn, 29, 0, 0, [], 0)]
/-- PuddingHobs$Foresight.swellBehind(II)I -/
def hm_T10 : hm_X := (yX2_swellBehind, prog_4_method_2_code, 3, (some .int), false, 3, [579, 62, 577, 578], hm_P10)
def hm_P11 : List hm_I := [
  (0, 1, .aload_n 0, 1, 1, 0, [], 0),
  (1, 4, .invokevirtual 25, 27, 0, 27, [], 580),
  (4, 5, .aload_n 0, 1, 1, 0, [], 0),
  (5, 6, .iload_n 1, 1, 0, 1, [], 0),
  (6, 9, .invokevirtual 28, 27, 0, 28, [], 585),
  (9, 10, .aload_n 0, 1, 1, 0, [], 0),
  (10, 13, .getfield 12, 18, 2, 1, [], 224),
  (13, 16, .getfield 35, 18, 3, 9, [], 158),
  (16, 17, .ireturn, 29, 0, 0, [], 0)]
/-- PuddingHobs$Foresight.burstBehind(I)I -/
def hm_T11 : hm_X := (yX2_burstBehind, prog_4_method_3_code, 2, (some .int), false, 2, [597, 62, 595, 596], hm_P11)
def hm_P12 : List hm_I := [
  (0, 1, .aload_n 0, 1, 1, 0, [], 0),
  (1, 4, .invokevirtual 25, 27, 0, 27, [], 580),
  (4, 5, .iconst 0, 0, 0, 0, [], 0),
  (5, 6, .istore_n 2, 2, 0, 2, [], 0),
  (6, 7, .iload_n 2, 1, 0, 2, [], 0),
  (7, 9, .bipush 60, 0, 0, 60, [], 0),
  (9, 12, .if_icmp .gt 30, 15, 39, 4, [], 0),
  (12, 13, .aload_n 0, 1, 1, 0, [], 0),
  (13, 16, .getfield 12, 18, 2, 1, [], 224),
  (16, 17, .iload_n 1, 1, 0, 1, [], 0),
  (17, 20, .invokevirtual 39, 27, 0, 34, [], 606),
  (20, 23, .ifCond .eq 5, 14, 25, 0, [], 0),
  (23, 24, .iload_n 2, 1, 0, 2, [], 0),
  (24, 25, .ireturn, 29, 0, 0, [], 0),
  (25, 26, .aload_n 0, 1, 1, 0, [], 0),
  (26, 29, .getfield 12, 18, 2, 1, [], 224),
  (29, 32, .invokevirtual 43, 27, 0, 43, [], 589),
  (32, 33, .pop, 25, 0, 0, [], 0),
  (33, 36, .iinc 2 1, 3, 1, 2, [], 0),
  (36, 39, .goto (-30), 16, 6, 0, [], 0),
  (39, 41, .ldc 47, 31, (-1000000), 0, [], 607),
  (41, 42, .ireturn, 29, 0, 0, [], 0)]
/-- PuddingHobs$Foresight.hoursTillBurst(I)I -/
def hm_T12 : hm_X := (yX2_hoursTillBurst, prog_4_method_4_code, 3, (some .int), false, 2, [605, 62, 603, 604], hm_P12)
def hm_P13 : List hm_I := [
  (0, 1, .aload_n 0, 1, 1, 0, [], 0),
  (1, 4, .invokevirtual 25, 27, 0, 27, [], 580),
  (4, 5, .iconst 1, 0, 0, 1, [], 0),
  (5, 6, .istore_n 2, 2, 0, 2, [], 0),
  (6, 7, .iload_n 2, 1, 0, 2, [], 0),
  (7, 9, .bipush 60, 0, 0, 60, [], 0),
  (9, 12, .if_icmp .gt 52, 15, 61, 4, [], 0),
  (12, 13, .aload_n 0, 1, 1, 0, [], 0),
  (13, 16, .getfield 12, 18, 2, 1, [], 224),
  (16, 19, .invokevirtual 43, 27, 0, 43, [], 589),
  (19, 20, .pop, 25, 0, 0, [], 0),
  (20, 21, .aload_n 0, 1, 1, 0, [], 0),
  (21, 24, .getfield 12, 18, 2, 1, [], 224),
  (24, 27, .getfield 35, 18, 3, 9, [], 158),
  (27, 28, .aload_n 0, 1, 1, 0, [], 0),
  (28, 31, .getfield 22, 18, 2, 0, [], 223),
  (31, 34, .getfield 35, 18, 3, 9, [], 158),
  (34, 35, .iconst (-1), 31, (-1), 0, [], 0),
  (35, 36, .ixor, 4, 0, 5, [], 0),
  (36, 37, .iand, 4, 0, 3, [], 0),
  (37, 38, .istore_n 3, 2, 0, 3, [], 0),
  (38, 39, .iload_n 3, 1, 0, 3, [], 0),
  (39, 42, .ifCond .eq 16, 14, 55, 0, [], 0),
  (42, 43, .iload_n 1, 1, 0, 1, [], 0),
  (43, 46, .ifCond .ne 10, 14, 53, 1, [], 0),
  (46, 47, .iload_n 3, 1, 0, 3, [], 0),
  (47, 50, .invokestatic 48, 27, 0, 206, [], 616),
  (50, 53, .goto 4, 16, 54, 0, [], 0),
  (53, 54, .iload_n 2, 1, 0, 2, [], 0),
  (54, 55, .ireturn, 29, 0, 0, [], 0),
  (55, 58, .iinc 2 1, 3, 1, 2, [], 0),
  (58, 61, .goto (-52), 16, 6, 0, [], 0),
  (61, 63, .ldc 47, 31, (-1000000), 0, [], 607),
  (63, 64, .ireturn, 29, 0, 0, [], 0)]
/-- PuddingHobs$Foresight.firstToBurst(I)I -/
def hm_T13 : hm_X := (yX2_firstToBurst, prog_4_method_5_code, 4, (some .int), false, 2, [615, 62, 613, 614], hm_P13)
def hm_P14 : List hm_I := [
  (0, 1, .iconst 0, 0, 0, 0, [], 0),
  (1, 2, .istore_n 3, 2, 0, 3, [], 0),
  (2, 3, .iload_n 3, 1, 0, 3, [], 0),
  (3, 5, .bipush 20, 0, 0, 20, [], 0),
  (5, 8, .if_icmp .gt 47, 15, 52, 4, [], 0),
  (8, 9, .aload_n 0, 1, 1, 0, [], 0),
  (9, 12, .invokevirtual 25, 27, 0, 27, [], 580),
  (12, 13, .iconst 0, 0, 0, 0, [], 0),
  (13, 15, .istore 4, 2, 0, 4, [], 0),
  (15, 17, .iload 4, 1, 0, 4, [], 0),
  (17, 18, .iload_n 3, 1, 0, 3, [], 0),
  (18, 21, .if_icmp .ge 17, 15, 35, 3, [], 0),
  (21, 22, .aload_n 0, 1, 1, 0, [], 0),
  (22, 25, .getfield 12, 18, 2, 1, [], 224),
  (25, 26, .iload_n 1, 1, 0, 1, [], 0),
  (26, 29, .invokevirtual 54, 27, 0, 48, [], 631),
  (29, 32, .iinc 4 1, 3, 1, 4, [], 0),
  (32, 35, .goto (-17), 16, 15, 0, [], 0),
  (35, 36, .aload_n 0, 1, 1, 0, [], 0),
  (36, 37, .iload_n 1, 1, 0, 1, [], 0),
  (37, 38, .iload_n 2, 1, 0, 2, [], 0),
  (38, 41, .invokevirtual 57, 27, 0, 29, [], 632),
  (41, 44, .ifCond .ne 5, 14, 46, 1, [], 0),
  (44, 45, .iload_n 3, 1, 0, 3, [], 0),
  (45, 46, .ireturn, 29, 0, 0, [], 0),
  (46, 49, .iinc 3 1, 3, 1, 3, [], 0),
  (49, 52, .goto (-47), 16, 2, 0, [], 0),
  (52, 54, .ldc 47, 31, (-1000000), 0, [], 607),
  (54, 55, .ireturn, 29, 0, 0, [], 0)]
/-- PuddingHobs$Foresight.fewestStirs(II)I -/
def hm_T14 : hm_X := (yX2_fewestStirs, prog_4_method_6_code, 5, (some .int), false, 3, [630, 62, 628, 629], hm_P14)
def hm_P15 : List hm_I := [
  (0, 2, .ldc 47, 31, (-1000000), 0, [], 607),
  (2, 3, .istore_n 2, 2, 0, 2, [], 0),
  (3, 4, .aload_n 0, 1, 1, 0, [], 0),
  (4, 7, .getfield 22, 18, 2, 0, [], 223),
  (7, 10, .getfield 61, 18, 3, 4, [], 142),
  (10, 11, .iconst 1, 0, 0, 1, [], 0),
  (11, 12, .iadd, 4, 0, 0, [], 0),
  (12, 13, .istore_n 3, 2, 0, 3, [], 0),
  (13, 14, .iconst 0, 0, 0, 0, [], 0),
  (14, 16, .istore 4, 2, 0, 4, [], 0),
  (16, 18, .iload 4, 1, 0, 4, [], 0),
  (18, 19, .iconst 1, 0, 0, 1, [], 0),
  (19, 20, .aload_n 0, 1, 1, 0, [], 0),
  (20, 23, .getfield 22, 18, 2, 0, [], 223),
  (23, 26, .getfield 61, 18, 3, 4, [], 142),
  (26, 27, .ishl, 4, 0, 6, [], 0),
  (27, 30, .if_icmp .ge 55, 15, 82, 3, [], 0),
  (30, 32, .iload 4, 1, 0, 4, [], 0),
  (32, 35, .invokestatic 64, 27, 0, 207, [], 644),
  (35, 36, .iload_n 3, 1, 0, 3, [], 0),
  (36, 39, .if_icmp .ge 40, 15, 76, 3, [], 0),
  (39, 40, .aload_n 0, 1, 1, 0, [], 0),
  (40, 43, .invokevirtual 25, 27, 0, 27, [], 580),
  (43, 44, .aload_n 0, 1, 1, 0, [], 0),
  (44, 47, .getfield 12, 18, 2, 1, [], 224),
  (47, 48, .dup, 24, 0, 0, [], 0),
  (48, 51, .getfield 67, 18, 3, 8, [], 156),
  (51, 53, .iload 4, 1, 0, 4, [], 0),
  (53, 54, .iconst (-1), 31, (-1), 0, [], 0),
  (54, 55, .ixor, 4, 0, 5, [], 0),
  (55, 56, .iand, 4, 0, 3, [], 0),
  (56, 59, .putfield 67, 19, 3, 8, [], 156),
  (59, 60, .aload_n 0, 1, 1, 0, [], 0),
  (60, 61, .iload_n 1, 1, 0, 1, [], 0),
  (61, 64, .invokevirtual 70, 27, 0, 30, [], 645),
  (64, 67, .ifCond .eq 12, 14, 76, 0, [], 0),
  (67, 69, .iload 4, 1, 0, 4, [], 0),
  (69, 70, .istore_n 2, 2, 0, 2, [], 0),
  (70, 72, .iload 4, 1, 0, 4, [], 0),
  (72, 75, .invokestatic 64, 27, 0, 207, [], 644),
  (75, 76, .istore_n 3, 2, 0, 3, [], 0),
  (76, 79, .iinc 4 1, 3, 1, 4, [], 0),
  (79, 82, .goto (-63), 16, 16, 0, [], 0),
  (82, 83, .iload_n 2, 1, 0, 2, [], 0),
  (83, 84, .ireturn, 29, 0, 0, [], 0)]
/-- PuddingHobs$Foresight.fewestOff(I)I -/
def hm_T15 : hm_X := (yX2_fewestOff, prog_4_method_7_code, 5, (some .int), false, 2, [643, 62, 641, 642], hm_P15)
def hm_P16 : List hm_I := [
  (0, 2, .ldc 47, 31, (-1000000), 0, [], 607),
  (2, 3, .istore_n 3, 2, 0, 3, [], 0),
  (3, 5, .ldc 47, 31, (-1000000), 0, [], 607),
  (5, 7, .istore 4, 2, 0, 4, [], 0),
  (7, 8, .iconst 0, 0, 0, 0, [], 0),
  (8, 10, .istore 5, 2, 0, 5, [], 0),
  (10, 12, .iload 5, 1, 0, 5, [], 0),
  (12, 13, .aload_n 0, 1, 1, 0, [], 0),
  (13, 16, .getfield 22, 18, 2, 0, [], 223),
  (16, 19, .getfield 61, 18, 3, 4, [], 142),
  (19, 22, .if_icmp .ge 92, 15, 111, 3, [], 0),
  (22, 24, .iload 5, 1, 0, 5, [], 0),
  (24, 25, .iconst 1, 0, 0, 1, [], 0),
  (25, 26, .iadd, 4, 0, 0, [], 0),
  (26, 28, .istore 6, 2, 0, 6, [], 0),
  (28, 30, .iload 6, 1, 0, 6, [], 0),
  (30, 31, .aload_n 0, 1, 1, 0, [], 0),
  (31, 34, .getfield 22, 18, 2, 0, [], 223),
  (34, 37, .getfield 61, 18, 3, 4, [], 142),
  (37, 40, .if_icmp .ge 68, 15, 105, 3, [], 0),
  (40, 41, .aload_n 0, 1, 1, 0, [], 0),
  (41, 44, .invokevirtual 25, 27, 0, 27, [], 580),
  (44, 45, .aload_n 0, 1, 1, 0, [], 0),
  (45, 48, .getfield 12, 18, 2, 1, [], 224),
  (48, 50, .iload 5, 1, 0, 5, [], 0),
  (50, 52, .iload 6, 1, 0, 6, [], 0),
  (52, 55, .invokevirtual 73, 27, 0, 50, [], 659),
  (55, 56, .aload_n 0, 1, 1, 0, [], 0),
  (56, 57, .iload_n 1, 1, 0, 1, [], 0),
  (57, 60, .invokevirtual 28, 27, 0, 28, [], 585),
  (60, 61, .aload_n 0, 1, 1, 0, [], 0),
  (61, 64, .getfield 12, 18, 2, 1, [], 224),
  (64, 67, .getfield 35, 18, 3, 9, [], 158),
  (67, 70, .invokestatic 64, 27, 0, 207, [], 644),
  (70, 72, .istore 7, 2, 0, 7, [], 0),
  (72, 74, .iload 4, 1, 0, 4, [], 0),
  (74, 76, .ldc 47, 31, (-1000000), 0, [], 607),
  (76, 79, .if_icmp .eq 10, 15, 86, 0, [], 0),
  (79, 81, .iload 7, 1, 0, 7, [], 0),
  (81, 83, .iload 4, 1, 0, 4, [], 0),
  (83, 86, .if_icmp .ge 16, 15, 99, 3, [], 0),
  (86, 88, .iload 7, 1, 0, 7, [], 0),
  (88, 90, .istore 4, 2, 0, 4, [], 0),
  (90, 92, .bipush 10, 0, 0, 10, [], 0),
  (92, 94, .iload 5, 1, 0, 5, [], 0),
  (94, 95, .imul, 4, 0, 2, [], 0),
  (95, 97, .iload 6, 1, 0, 6, [], 0),
  (97, 98, .iadd, 4, 0, 0, [], 0),
  (98, 99, .istore_n 3, 2, 0, 3, [], 0),
  (99, 102, .iinc 6 1, 3, 1, 6, [], 0),
  (102, 105, .goto (-74), 16, 28, 0, [], 0),
  (105, 108, .iinc 5 1, 3, 1, 5, [], 0),
  (108, 111, .goto (-98), 16, 10, 0, [], 0),
  (111, 112, .iload_n 2, 1, 0, 2, [], 0),
  (112, 115, .ifCond .ne 7, 14, 119, 1, [], 0),
  (115, 116, .iload_n 3, 1, 0, 3, [], 0),
  (116, 119, .goto 5, 16, 121, 0, [], 0),
  (119, 121, .iload 4, 1, 0, 4, [], 0),
  (121, 122, .ireturn, 29, 0, 0, [], 0)]
/-- PuddingHobs$Foresight.bestChange(II)I -/
def hm_T16 : hm_X := (yX2_bestChange, prog_4_method_8_code, 8, (some .int), false, 3, [658, 62, 656, 657], hm_P16)
def hm_P17 : List hm_I := [
  (0, 2, .bipush 9, 0, 0, 9, [], 0),
  (2, 3, .istore_n 2, 2, 0, 2, [], 0),
  (3, 4, .iload_n 2, 1, 0, 2, [], 0),
  (4, 7, .ifCond .lt 31, 14, 35, 2, [], 0),
  (7, 8, .aload_n 0, 1, 1, 0, [], 0),
  (8, 11, .invokevirtual 25, 27, 0, 27, [], 580),
  (11, 12, .aload_n 0, 1, 1, 0, [], 0),
  (12, 15, .getfield 12, 18, 2, 1, [], 224),
  (15, 16, .iload_n 2, 1, 0, 2, [], 0),
  (16, 19, .putfield 77, 19, 3, 5, [], 147),
  (19, 20, .aload_n 0, 1, 1, 0, [], 0),
  (20, 21, .iload_n 1, 1, 0, 1, [], 0),
  (21, 24, .invokevirtual 70, 27, 0, 30, [], 645),
  (24, 27, .ifCond .eq 5, 14, 29, 0, [], 0),
  (27, 28, .iload_n 2, 1, 0, 2, [], 0),
  (28, 29, .ireturn, 29, 0, 0, [], 0),
  (29, 32, .iinc 2 (-1), 3, (-1), 2, [], 0),
  (32, 35, .goto (-29), 16, 3, 0, [], 0),
  (35, 37, .ldc 47, 31, (-1000000), 0, [], 607),
  (37, 38, .ireturn, 29, 0, 0, [], 0)]
/-- PuddingHobs$Foresight.greatestHeat(I)I -/
def hm_T17 : hm_X := (yX2_greatestHeat, prog_4_method_9_code, 3, (some .int), false, 2, [667, 62, 665, 666], hm_P17)
def hm_P18 : List hm_I := [
  (0, 1, .iconst 0, 0, 0, 0, [], 0),
  (1, 3, .istore 4, 2, 0, 4, [], 0),
  (3, 4, .iconst 0, 0, 0, 0, [], 0),
  (4, 6, .istore 5, 2, 0, 5, [], 0),
  (6, 8, .ldc 47, 31, (-1000000), 0, [], 607),
  (8, 10, .istore 6, 2, 0, 6, [], 0),
  (10, 13, .getstatic 80, 23, 0, 0, [], 692),
  (13, 14, .iload_n 3, 1, 0, 3, [], 0),
  (14, 15, .iaload, 20, 0, 0, [], 0),
  (15, 17, .istore 7, 2, 0, 7, [], 0),
  (17, 19, .iload 7, 1, 0, 7, [], 0),
  (19, 22, .getstatic 83, 23, 0, 1, [], 694),
  (22, 23, .iload_n 3, 1, 0, 3, [], 0),
  (23, 24, .iaload, 20, 0, 0, [], 0),
  (24, 27, .if_icmp .gt 56, 15, 80, 4, [], 0),
  (27, 28, .aload_n 0, 1, 1, 0, [], 0),
  (28, 31, .invokevirtual 25, 27, 0, 27, [], 580),
  (31, 32, .aload_n 0, 1, 1, 0, [], 0),
  (32, 33, .iload_n 1, 1, 0, 1, [], 0),
  (33, 34, .iload_n 3, 1, 0, 3, [], 0),
  (34, 36, .iload 7, 1, 0, 7, [], 0),
  (36, 39, .invokevirtual 86, 27, 0, 19, [], 696),
  (39, 40, .aload_n 0, 1, 1, 0, [], 0),
  (40, 41, .iload_n 1, 1, 0, 1, [], 0),
  (41, 42, .iload_n 2, 1, 0, 2, [], 0),
  (42, 45, .invokevirtual 90, 27, 0, 20, [], 700),
  (45, 48, .ifCond .eq 29, 14, 74, 0, [], 0),
  (48, 50, .iload 4, 1, 0, 4, [], 0),
  (50, 51, .iconst 1, 0, 0, 1, [], 0),
  (51, 53, .iload 7, 1, 0, 7, [], 0),
  (53, 54, .ishl, 4, 0, 6, [], 0),
  (54, 55, .ior, 4, 0, 4, [], 0),
  (55, 57, .istore 4, 2, 0, 4, [], 0),
  (57, 59, .iload 5, 1, 0, 5, [], 0),
  (59, 62, .ifCond .ne 8, 14, 67, 1, [], 0),
  (62, 64, .iload 7, 1, 0, 7, [], 0),
  (64, 67, .goto 5, 16, 69, 0, [], 0),
  (67, 69, .iload 6, 1, 0, 6, [], 0),
  (69, 71, .istore 6, 2, 0, 6, [], 0),
  (71, 74, .iinc 5 1, 3, 1, 5, [], 0),
  (74, 77, .iinc 7 1, 3, 1, 7, [], 0),
  (77, 80, .goto (-60), 16, 17, 0, [], 0),
  (80, 81, .iload_n 3, 1, 0, 3, [], 0),
  (81, 108, .lookupswitch 33 #[(3, 27), (4, 30)], 17, 114, 1, [(3, 108), (4, 111)], 0),
  (108, 110, .iload 5, 1, 0, 5, [], 0),
  (110, 111, .ireturn, 29, 0, 0, [], 0),
  (111, 113, .iload 6, 1, 0, 6, [], 0),
  (113, 114, .ireturn, 29, 0, 0, [], 0),
  (114, 116, .iload 4, 1, 0, 4, [], 0),
  (116, 117, .ireturn, 29, 0, 0, [], 0)]
/-- PuddingHobs$Foresight.fitting(III)I -/
def hm_T18 : hm_X := (yX2_fitting, prog_4_method_10_code, 8, (some .int), false, 4, [691, 62, 689, 690], hm_P18)
def hm_P19 : List hm_I := [
  (0, 1, .iload_n 2, 1, 0, 2, [], 0),
  (1, 28, .tableswitch 64 0 2 #[27, 40, 53], 17, 65, 0, [(0, 28), (1, 41), (2, 54)], 0),
  (28, 29, .aload_n 0, 1, 1, 0, [], 0),
  (29, 32, .getfield 12, 18, 2, 1, [], 224),
  (32, 35, .getfield 93, 18, 3, 0, [], 129),
  (35, 36, .iload_n 1, 1, 0, 1, [], 0),
  (36, 37, .iload_n 3, 1, 0, 3, [], 0),
  (37, 38, .iastore, 21, 0, 0, [], 0),
  (38, 41, .goto 35, 16, 73, 0, [], 0),
  (41, 42, .aload_n 0, 1, 1, 0, [], 0),
  (42, 45, .getfield 12, 18, 2, 1, [], 224),
  (45, 48, .getfield 96, 18, 3, 1, [], 133),
  (48, 49, .iload_n 1, 1, 0, 1, [], 0),
  (49, 50, .iload_n 3, 1, 0, 3, [], 0),
  (50, 51, .iastore, 21, 0, 0, [], 0),
  (51, 54, .goto 22, 16, 73, 0, [], 0),
  (54, 55, .aload_n 0, 1, 1, 0, [], 0),
  (55, 58, .getfield 12, 18, 2, 1, [], 224),
  (58, 59, .iload_n 3, 1, 0, 3, [], 0),
  (59, 62, .putfield 77, 19, 3, 5, [], 147),
  (62, 65, .goto 11, 16, 73, 0, [], 0),
  (65, 66, .aload_n 0, 1, 1, 0, [], 0),
  (66, 69, .getfield 12, 18, 2, 1, [], 224),
  (69, 70, .iload_n 3, 1, 0, 3, [], 0),
  (70, 73, .putfield 99, 19, 3, 6, [], 151),
  (73, 74, .return_, 30, 0, 0, [], 0)]
/-- PuddingHobs$Foresight.alterTrial(III)V -/
def hm_T19 : hm_X := (yX2_alterTrial, prog_4_method_11_code, 4, none, false, 4, [699, 62, 698, 21], hm_P19)
def hm_P20 : List hm_I := [
  (0, 1, .iconst 0, 0, 0, 0, [], 0),
  (1, 2, .istore_n 3, 2, 0, 3, [], 0),
  (2, 3, .iload_n 3, 1, 0, 3, [], 0),
  (3, 4, .iload_n 2, 1, 0, 2, [], 0),
  (4, 7, .if_icmp .ge 37, 15, 41, 3, [], 0),
  (7, 8, .aload_n 0, 1, 1, 0, [], 0),
  (8, 11, .getfield 12, 18, 2, 1, [], 224),
  (11, 14, .invokevirtual 43, 27, 0, 43, [], 589),
  (14, 15, .pop, 25, 0, 0, [], 0),
  (15, 16, .aload_n 0, 1, 1, 0, [], 0),
  (16, 19, .getfield 12, 18, 2, 1, [], 224),
  (19, 22, .getfield 32, 18, 3, 2, [], 136),
  (22, 23, .iload_n 1, 1, 0, 1, [], 0),
  (23, 24, .iaload, 20, 0, 0, [], 0),
  (24, 25, .aload_n 0, 1, 1, 0, [], 0),
  (25, 28, .getfield 18, 18, 2, 2, [], 225),
  (28, 29, .iload_n 3, 1, 0, 3, [], 0),
  (29, 30, .iaload, 20, 0, 0, [], 0),
  (30, 33, .if_icmp .eq 5, 15, 35, 0, [], 0),
  (33, 34, .iconst 0, 0, 0, 0, [], 0),
  (34, 35, .ireturn, 29, 0, 1, [], 0),
  (35, 38, .iinc 3 1, 3, 1, 3, [], 0),
  (38, 41, .goto (-36), 16, 2, 0, [], 0),
  (41, 42, .iconst 1, 0, 0, 1, [], 0),
  (42, 43, .ireturn, 29, 0, 1, [], 0)]
/-- PuddingHobs$Foresight.trialIsAsTold(II)Z -/
def hm_T20 : hm_X := (yX2_trialIsAsTold, prog_4_method_12_code, 4, (some .boolean), false, 3, [703, 62, 702, 22], hm_P20)
def hm_P21 : List hm_I := [
  (0, 1, .iconst 0, 0, 0, 0, [], 0),
  (1, 3, .istore 5, 2, 0, 5, [], 0),
  (3, 4, .iconst 0, 0, 0, 0, [], 0),
  (4, 6, .istore 6, 2, 0, 6, [], 0),
  (6, 7, .iconst 0, 0, 0, 0, [], 0),
  (7, 9, .istore 7, 2, 0, 7, [], 0),
  (9, 11, .iload 7, 1, 0, 7, [], 0),
  (11, 12, .iconst 1, 0, 0, 1, [], 0),
  (12, 13, .aload_n 0, 1, 1, 0, [], 0),
  (13, 16, .getfield 22, 18, 2, 0, [], 223),
  (16, 19, .getfield 61, 18, 3, 4, [], 142),
  (19, 20, .ishl, 4, 0, 6, [], 0),
  (20, 23, .if_icmp .ge 48, 15, 68, 3, [], 0),
  (23, 24, .aload_n 0, 1, 1, 0, [], 0),
  (24, 26, .iload 7, 1, 0, 7, [], 0),
  (26, 27, .iload_n 3, 1, 0, 3, [], 0),
  (27, 30, .invokevirtual 102, 27, 0, 22, [], 712),
  (30, 32, .istore 8, 2, 0, 8, [], 0),
  (32, 34, .iload 6, 1, 0, 6, [], 0),
  (34, 36, .iload 8, 1, 0, 8, [], 0),
  (36, 37, .iadd, 4, 0, 0, [], 0),
  (37, 39, .istore 6, 2, 0, 6, [], 0),
  (39, 41, .iload 8, 1, 0, 8, [], 0),
  (41, 44, .ifCond .le 21, 14, 62, 5, [], 0),
  (44, 45, .aload_n 0, 1, 1, 0, [], 0),
  (45, 46, .iload_n 1, 1, 0, 1, [], 0),
  (46, 47, .iload_n 2, 1, 0, 2, [], 0),
  (47, 49, .iload 7, 1, 0, 7, [], 0),
  (49, 52, .invokevirtual 106, 27, 0, 23, [], 716),
  (52, 55, .ifCond .eq 10, 14, 62, 0, [], 0),
  (55, 57, .iload 5, 1, 0, 5, [], 0),
  (57, 59, .iload 8, 1, 0, 8, [], 0),
  (59, 60, .iadd, 4, 0, 0, [], 0),
  (60, 62, .istore 5, 2, 0, 5, [], 0),
  (62, 65, .iinc 7 1, 3, 1, 7, [], 0),
  (65, 68, .goto (-56), 16, 9, 0, [], 0),
  (68, 69, .iconst 1, 0, 0, 1, [], 0),
  (69, 71, .iload 5, 1, 0, 5, [], 0),
  (71, 73, .iload 6, 1, 0, 6, [], 0),
  (73, 76, .invokestatic 110, 27, 0, 24, [], 720),
  (76, 79, .invokestatic 113, 32, 0, 0, [], 723),
  (79, 81, .istore 7, 2, 0, 7, [], 0),
  (81, 83, .iload 4, 1, 0, 4, [], 0),
  (83, 86, .ifCond .ne 8, 14, 91, 1, [], 0),
  (86, 88, .iload 5, 1, 0, 5, [], 0),
  (88, 91, .goto 5, 16, 93, 0, [], 0),
  (91, 93, .iload 6, 1, 0, 6, [], 0),
  (93, 95, .iload 7, 1, 0, 7, [], 0),
  (95, 96, .idiv, 5, 0, 0, [], 0),
  (96, 97, .ireturn, 29, 0, 0, [], 0)]
/-- PuddingHobs$Foresight.chanceWithMice(IIII)I -/
def hm_T21 : hm_X := (yX2_chanceWithMice, prog_4_method_13_code, 9, (some .int), false, 5, [711, 62, 709, 710], hm_P21)
def hm_P22 : List hm_I := [
  (0, 1, .iconst 1, 0, 0, 1, [], 0),
  (1, 2, .istore_n 3, 2, 0, 3, [], 0),
  (2, 3, .iconst 0, 0, 0, 0, [], 0),
  (3, 5, .istore 4, 2, 0, 4, [], 0),
  (5, 7, .iload 4, 1, 0, 4, [], 0),
  (7, 8, .aload_n 0, 1, 1, 0, [], 0),
  (8, 11, .getfield 22, 18, 2, 0, [], 223),
  (11, 14, .getfield 61, 18, 3, 4, [], 142),
  (14, 17, .if_icmp .ge 30, 15, 44, 3, [], 0),
  (17, 18, .iload_n 3, 1, 0, 3, [], 0),
  (18, 19, .iload_n 1, 1, 0, 1, [], 0),
  (19, 21, .iload 4, 1, 0, 4, [], 0),
  (21, 22, .ishr, 4, 0, 7, [], 0),
  (22, 23, .iconst 1, 0, 0, 1, [], 0),
  (23, 24, .iand, 4, 0, 3, [], 0),
  (24, 25, .iconst 1, 0, 0, 1, [], 0),
  (25, 28, .if_icmp .ne 7, 15, 32, 1, [], 0),
  (28, 29, .iload_n 2, 1, 0, 2, [], 0),
  (29, 32, .goto 7, 16, 36, 0, [], 0),
  (32, 34, .bipush 10, 0, 0, 10, [], 0),
  (34, 35, .iload_n 2, 1, 0, 2, [], 0),
  (35, 36, .isub, 4, 0, 1, [], 0),
  (36, 37, .imul, 4, 0, 2, [], 0),
  (37, 38, .istore_n 3, 2, 0, 3, [], 0),
  (38, 41, .iinc 4 1, 3, 1, 4, [], 0),
  (41, 44, .goto (-36), 16, 5, 0, [], 0),
  (44, 45, .iload_n 3, 1, 0, 3, [], 0),
  (45, 46, .ireturn, 29, 0, 0, [], 0)]
/-- PuddingHobs$Foresight.weightOf(II)I -/
def hm_T22 : hm_X := (yX2_weightOf, prog_4_method_14_code, 5, (some .int), false, 3, [715, 62, 714, 23], hm_P22)
def hm_P23 : List hm_I := [
  (0, 1, .aload_n 0, 1, 1, 0, [], 0),
  (1, 4, .invokevirtual 25, 27, 0, 27, [], 580),
  (4, 5, .aload_n 0, 1, 1, 0, [], 0),
  (5, 8, .getfield 12, 18, 2, 1, [], 224),
  (8, 9, .dup, 24, 0, 0, [], 0),
  (9, 12, .getfield 67, 18, 3, 8, [], 156),
  (12, 13, .iload_n 3, 1, 0, 3, [], 0),
  (13, 14, .iconst (-1), 31, (-1), 0, [], 0),
  (14, 15, .ixor, 4, 0, 5, [], 0),
  (15, 16, .iand, 4, 0, 3, [], 0),
  (16, 19, .putfield 67, 19, 3, 8, [], 156),
  (19, 20, .iconst 0, 0, 0, 0, [], 0),
  (20, 22, .istore 4, 2, 0, 4, [], 0),
  (22, 24, .iload 4, 1, 0, 4, [], 0),
  (24, 25, .aload_n 0, 1, 1, 0, [], 0),
  (25, 28, .getfield 12, 18, 2, 1, [], 224),
  (28, 31, .getfield 61, 18, 3, 4, [], 142),
  (31, 34, .if_icmp .ge 30, 15, 61, 3, [], 0),
  (34, 35, .iload_n 3, 1, 0, 3, [], 0),
  (35, 37, .iload 4, 1, 0, 4, [], 0),
  (37, 38, .ishr, 4, 0, 7, [], 0),
  (38, 39, .iconst 1, 0, 0, 1, [], 0),
  (39, 40, .iand, 4, 0, 3, [], 0),
  (40, 41, .iconst 1, 0, 0, 1, [], 0),
  (41, 44, .if_icmp .ne 14, 15, 55, 1, [], 0),
  (44, 45, .aload_n 0, 1, 1, 0, [], 0),
  (45, 48, .getfield 12, 18, 2, 1, [], 224),
  (48, 51, .getfield 32, 18, 3, 2, [], 136),
  (51, 53, .iload 4, 1, 0, 4, [], 0),
  (53, 54, .iconst 0, 0, 0, 0, [], 0),
  (54, 55, .iastore, 21, 0, 0, [], 0),
  (55, 58, .iinc 4 1, 3, 1, 4, [], 0),
  (58, 61, .goto (-36), 16, 22, 0, [], 0),
  (61, 62, .aload_n 0, 1, 1, 0, [], 0),
  (62, 63, .iload_n 1, 1, 0, 1, [], 0),
  (63, 64, .iload_n 2, 1, 0, 2, [], 0),
  (64, 67, .invokevirtual 57, 27, 0, 29, [], 632),
  (67, 68, .ireturn, 29, 0, 1, [], 0)]
/-- PuddingHobs$Foresight.burstsWithMice(III)Z -/
def hm_T23 : hm_X := (yX2_burstsWithMice, prog_4_method_15_code, 5, (some .boolean), false, 4, [719, 62, 718, 24], hm_P23)
def hm_P24 : List hm_I := [
  (0, 1, .iload_n 0, 1, 0, 0, [], 0),
  (1, 2, .istore_n 2, 2, 0, 2, [], 0),
  (2, 3, .iload_n 1, 1, 0, 1, [], 0),
  (3, 4, .istore_n 3, 2, 0, 3, [], 0),
  (4, 5, .iconst 0, 0, 0, 0, [], 0),
  (5, 7, .istore 4, 2, 0, 4, [], 0),
  (7, 8, .iload_n 3, 1, 0, 3, [], 0),
  (8, 11, .ifCond .le 26, 14, 34, 5, [], 0),
  (11, 13, .iload 4, 1, 0, 4, [], 0),
  (13, 15, .bipush 100, 0, 0, 100, [], 0),
  (15, 18, .if_icmp .ge 19, 15, 34, 3, [], 0),
  (18, 19, .iload_n 2, 1, 0, 2, [], 0),
  (19, 20, .iload_n 3, 1, 0, 3, [], 0),
  (20, 21, .irem, 6, 0, 0, [], 0),
  (21, 23, .istore 5, 2, 0, 5, [], 0),
  (23, 24, .iload_n 3, 1, 0, 3, [], 0),
  (24, 25, .istore_n 2, 2, 0, 2, [], 0),
  (25, 27, .iload 5, 1, 0, 5, [], 0),
  (27, 28, .istore_n 3, 2, 0, 3, [], 0),
  (28, 31, .iinc 4 1, 3, 1, 4, [], 0),
  (31, 34, .goto (-24), 16, 7, 0, [], 0),
  (34, 35, .iload_n 2, 1, 0, 2, [], 0),
  (35, 36, .ireturn, 29, 0, 0, [], 0)]
/-- PuddingHobs$Foresight.greatestDivisor(II)I -/
def hm_T24 : hm_X := (yX2_greatestDivisor, prog_4_method_16_code, 6, (some .int), true, 2, [722, 62, 721, 0], hm_P24)
def hm_P25 : List hm_I := [
  (0, 1, .aload_n 0, 1, 1, 0, [], 0),
  (1, 4, .invokevirtual 25, 27, 0, 27, [], 580),
  (4, 5, .iload_n 2, 1, 0, 2, [], 0),
  (5, 6, .i2l, 8, 0, 0, [], 0),
  (6, 8, .lstore 4, 2, 2, 4, [], 0),
  (8, 9, .iconst 0, 0, 0, 0, [], 0),
  (9, 11, .istore 6, 2, 0, 6, [], 0),
  (11, 13, .iload 6, 1, 0, 6, [], 0),
  (13, 14, .iload_n 1, 1, 0, 1, [], 0),
  (14, 17, .if_icmp .ge 49, 15, 63, 3, [], 0),
  (17, 19, .lload 4, 1, 2, 4, [], 0),
  (19, 22, .ldc2_w 118, 10, 0, 16807, [], 733),
  (22, 23, .lmul, 11, 0, 0, [], 0),
  (23, 26, .ldc2_w 120, 10, 0, 2147483647, [], 734),
  (26, 27, .lrem, 12, 0, 0, [], 0),
  (27, 29, .lstore 4, 2, 2, 4, [], 0),
  (29, 30, .aload_n 0, 1, 1, 0, [], 0),
  (30, 33, .getfield 12, 18, 2, 1, [], 224),
  (33, 35, .lload 4, 1, 2, 4, [], 0),
  (35, 38, .ldc2_w 122, 10, 0, 10, [], 735),
  (38, 39, .lrem, 12, 0, 0, [], 0),
  (39, 40, .l2i, 9, 0, 0, [], 0),
  (40, 43, .putfield 77, 19, 3, 5, [], 147),
  (43, 44, .aload_n 0, 1, 1, 0, [], 0),
  (44, 46, .lload 4, 1, 2, 4, [], 0),
  (46, 49, .invokevirtual 124, 27, 0, 26, [], 736),
  (49, 50, .aload_n 0, 1, 1, 0, [], 0),
  (50, 53, .getfield 12, 18, 2, 1, [], 224),
  (53, 56, .invokevirtual 43, 27, 0, 43, [], 589),
  (56, 57, .pop, 25, 0, 0, [], 0),
  (57, 60, .iinc 6 1, 3, 1, 6, [], 0),
  (60, 63, .goto (-49), 16, 11, 0, [], 0),
  (63, 64, .iload_n 3, 1, 0, 3, [], 0),
  (64, 67, .ifCond .ne 16, 14, 80, 1, [], 0),
  (67, 68, .aload_n 0, 1, 1, 0, [], 0),
  (68, 71, .getfield 12, 18, 2, 1, [], 224),
  (71, 74, .getfield 35, 18, 3, 9, [], 158),
  (74, 77, .invokestatic 64, 27, 0, 207, [], 644),
  (77, 80, .goto 10, 16, 87, 0, [], 0),
  (80, 81, .aload_n 0, 1, 1, 0, [], 0),
  (81, 84, .getfield 12, 18, 2, 1, [], 224),
  (84, 87, .invokevirtual 128, 27, 0, 51, [], 743),
  (87, 88, .ireturn, 29, 0, 0, [], 0)]
/-- PuddingHobs$Foresight.century(III)I -/
def hm_T25 : hm_X := (yX2_century, prog_4_method_17_code, 7, (some .int), false, 4, [732, 62, 730, 731], hm_P25)
def hm_P26 : List hm_I := [
  (0, 1, .aload_n 0, 1, 1, 0, [], 0),
  (1, 4, .getfield 12, 18, 2, 1, [], 224),
  (4, 7, .invokevirtual 132, 27, 0, 31, [], 740),
  (7, 10, .ifCond .eq 4, 14, 11, 0, [], 0),
  (10, 11, .return_, 30, 0, 0, [], 0),
  (11, 12, .lload_n 1, 1, 2, 1, [], 0),
  (12, 13, .aload_n 0, 1, 1, 0, [], 0),
  (13, 16, .getfield 12, 18, 2, 1, [], 224),
  (16, 19, .getfield 61, 18, 3, 4, [], 142),
  (19, 20, .i2l, 8, 0, 0, [], 0),
  (20, 21, .lrem, 12, 0, 0, [], 0),
  (21, 22, .l2i, 9, 0, 0, [], 0),
  (22, 23, .istore_n 3, 2, 0, 3, [], 0),
  (23, 24, .lload_n 1, 1, 2, 1, [], 0),
  (24, 27, .ldc2_w 135, 10, 0, 2, [], 741),
  (27, 28, .lrem, 12, 0, 0, [], 0),
  (28, 29, .lconst 0, 10, 0, 0, [], 0),
  (29, 30, .lcmp, 13, 0, 0, [], 0),
  (30, 33, .ifCond .ne 25, 14, 55, 1, [], 0),
  (33, 34, .aload_n 0, 1, 1, 0, [], 0),
  (34, 37, .getfield 12, 18, 2, 1, [], 224),
  (37, 38, .iload_n 3, 1, 0, 3, [], 0),
  (38, 41, .invokevirtual 39, 27, 0, 34, [], 606),
  (41, 44, .ifCond .ne 14, 14, 55, 1, [], 0),
  (44, 45, .aload_n 0, 1, 1, 0, [], 0),
  (45, 48, .getfield 12, 18, 2, 1, [], 224),
  (48, 49, .iload_n 3, 1, 0, 3, [], 0),
  (49, 52, .invokevirtual 54, 27, 0, 48, [], 631),
  (52, 55, .goto 11, 16, 63, 0, [], 0),
  (55, 56, .aload_n 0, 1, 1, 0, [], 0),
  (56, 59, .getfield 12, 18, 2, 1, [], 224),
  (59, 60, .iload_n 3, 1, 0, 3, [], 0),
  (60, 63, .invokevirtual 137, 27, 0, 49, [], 742),
  (63, 64, .return_, 30, 0, 0, [], 0)]
/-- PuddingHobs$Foresight.meddle(J)V -/
def hm_T26 : hm_X := (yX2_meddle, prog_4_method_18_code, 4, none, false, 2, [739, 62, 738, 25], hm_P26)
def hm_P27 : List hm_I := [
  (0, 1, .aload_n 0, 1, 1, 0, [], 0),
  (1, 4, .getfield 12, 18, 2, 1, [], 224),
  (4, 5, .aload_n 0, 1, 1, 0, [], 0),
  (5, 8, .getfield 22, 18, 2, 0, [], 223),
  (8, 11, .invokevirtual 140, 27, 0, 38, [], 584),
  (11, 12, .return_, 30, 0, 0, [], 0)]
/-- PuddingHobs$Foresight.beginTrial()V -/
def hm_T27 : hm_X := (yX2_beginTrial, prog_4_method_19_code, 1, none, false, 1, [583, 62, 582, 16], hm_P27)
def hm_P28 : List hm_I := [
  (0, 1, .iconst 1, 0, 0, 1, [], 0),
  (1, 2, .istore_n 2, 2, 0, 2, [], 0),
  (2, 3, .iconst 0, 0, 0, 0, [], 0),
  (3, 4, .istore_n 3, 2, 0, 3, [], 0),
  (4, 5, .iload_n 3, 1, 0, 3, [], 0),
  (5, 6, .iload_n 1, 1, 0, 1, [], 0),
  (6, 9, .if_icmp .ge 21, 15, 27, 3, [], 0),
  (9, 10, .iload_n 2, 1, 0, 2, [], 0),
  (10, 13, .ifCond .eq 17, 14, 27, 0, [], 0),
  (13, 14, .aload_n 0, 1, 1, 0, [], 0),
  (14, 17, .getfield 12, 18, 2, 1, [], 224),
  (17, 20, .invokevirtual 43, 27, 0, 43, [], 589),
  (20, 21, .istore_n 2, 2, 0, 2, [], 0),
  (21, 24, .iinc 3 1, 3, 1, 3, [], 0),
  (24, 27, .goto (-20), 16, 4, 0, [], 0),
  (27, 28, .return_, 30, 0, 0, [], 0)]
/-- PuddingHobs$Foresight.boilTrial(I)V -/
def hm_T28 : hm_X := (yX2_boilTrial, prog_4_method_20_code, 4, none, false, 2, [588, 62, 587, 17], hm_P28)
def hm_P29 : List hm_I := [
  (0, 1, .iconst 1, 0, 0, 1, [], 0),
  (1, 2, .istore_n 3, 2, 0, 3, [], 0),
  (2, 3, .iconst 0, 0, 0, 0, [], 0),
  (3, 5, .istore 4, 2, 0, 4, [], 0),
  (5, 7, .iload 4, 1, 0, 4, [], 0),
  (7, 8, .iload_n 2, 1, 0, 2, [], 0),
  (8, 11, .if_icmp .ge 32, 15, 40, 3, [], 0),
  (11, 12, .iload_n 3, 1, 0, 3, [], 0),
  (12, 15, .ifCond .eq 28, 14, 40, 0, [], 0),
  (15, 16, .aload_n 0, 1, 1, 0, [], 0),
  (16, 19, .getfield 12, 18, 2, 1, [], 224),
  (19, 20, .iload_n 1, 1, 0, 1, [], 0),
  (20, 23, .invokevirtual 39, 27, 0, 34, [], 606),
  (23, 26, .ifCond .ne 17, 14, 40, 1, [], 0),
  (26, 27, .aload_n 0, 1, 1, 0, [], 0),
  (27, 30, .getfield 12, 18, 2, 1, [], 224),
  (30, 33, .invokevirtual 43, 27, 0, 43, [], 589),
  (33, 34, .istore_n 3, 2, 0, 3, [], 0),
  (34, 37, .iinc 4 1, 3, 1, 4, [], 0),
  (37, 40, .goto (-32), 16, 5, 0, [], 0),
  (40, 41, .aload_n 0, 1, 1, 0, [], 0),
  (41, 44, .getfield 12, 18, 2, 1, [], 224),
  (44, 45, .iload_n 1, 1, 0, 1, [], 0),
  (45, 48, .invokevirtual 39, 27, 0, 34, [], 606),
  (48, 49, .ireturn, 29, 0, 1, [], 0)]
/-- PuddingHobs$Foresight.trialBursts(II)Z -/
def hm_T29 : hm_X := (yX2_trialBursts, prog_4_method_21_code, 5, (some .boolean), false, 3, [635, 62, 634, 18], hm_P29)
def hm_P30 : List hm_I := [
  (0, 1, .iconst 1, 0, 0, 1, [], 0),
  (1, 2, .istore_n 2, 2, 0, 2, [], 0),
  (2, 3, .iconst 0, 0, 0, 0, [], 0),
  (3, 4, .istore_n 3, 2, 0, 3, [], 0),
  (4, 5, .iload_n 3, 1, 0, 3, [], 0),
  (5, 6, .iload_n 1, 1, 0, 1, [], 0),
  (6, 9, .if_icmp .ge 38, 15, 44, 3, [], 0),
  (9, 10, .iload_n 2, 1, 0, 2, [], 0),
  (10, 13, .ifCond .eq 34, 14, 44, 0, [], 0),
  (13, 14, .aload_n 0, 1, 1, 0, [], 0),
  (14, 17, .getfield 12, 18, 2, 1, [], 224),
  (17, 20, .getfield 35, 18, 3, 9, [], 158),
  (20, 21, .aload_n 0, 1, 1, 0, [], 0),
  (21, 24, .getfield 22, 18, 2, 0, [], 223),
  (24, 27, .getfield 35, 18, 3, 9, [], 158),
  (27, 30, .if_icmp .ne 17, 15, 44, 1, [], 0),
  (30, 31, .aload_n 0, 1, 1, 0, [], 0),
  (31, 34, .getfield 12, 18, 2, 1, [], 224),
  (34, 37, .invokevirtual 43, 27, 0, 43, [], 589),
  (37, 38, .istore_n 2, 2, 0, 2, [], 0),
  (38, 41, .iinc 3 1, 3, 1, 3, [], 0),
  (41, 44, .goto (-37), 16, 4, 0, [], 0),
  (44, 45, .aload_n 0, 1, 1, 0, [], 0),
  (45, 48, .getfield 12, 18, 2, 1, [], 224),
  (48, 51, .getfield 35, 18, 3, 9, [], 158),
  (51, 52, .aload_n 0, 1, 1, 0, [], 0),
  (52, 55, .getfield 22, 18, 2, 0, [], 223),
  (55, 58, .getfield 35, 18, 3, 9, [], 158),
  (58, 61, .if_icmp .ne 7, 15, 65, 1, [], 0),
  (61, 62, .iconst 1, 0, 0, 1, [], 0),
  (62, 65, .goto 4, 16, 66, 0, [], 0),
  (65, 66, .iconst 0, 0, 0, 0, [], 0),
  (66, 67, .ireturn, 29, 0, 1, [], 0)]
/-- PuddingHobs$Foresight.trialBurstsNone(I)Z -/
def hm_T30 : hm_X := (yX2_trialBurstsNone, prog_4_method_22_code, 4, (some .boolean), false, 2, [648, 62, 647, 19], hm_P30)
def hm_P31 : List hm_I := [
  (0, 1, .aload_n 0, 1, 1, 0, [], 0),
  (1, 4, .getfield 22, 18, 3, 4, [], 141),
  (4, 7, .ifCond .ne 7, 14, 11, 1, [], 0),
  (7, 8, .iconst 1, 0, 0, 1, [], 0),
  (8, 11, .goto 4, 16, 12, 0, [], 0),
  (11, 12, .iconst 0, 0, 0, 0, [], 0),
  (12, 13, .ireturn, 29, 0, 1, [], 0)]
/-- PuddingHobs$Hob.isNone()Z -/
def hm_T31 : hm_X := (yX3_isNone, prog_5_method_2_code, 1, (some .boolean), false, 1, [441, 59, 439, 440], hm_P31)
def hm_P32 : List hm_I := [
  (0, 1, .iload_n 1, 1, 0, 1, [], 0),
  (1, 4, .ifCond .lt 15, 14, 16, 2, [], 0),
  (4, 5, .iload_n 1, 1, 0, 1, [], 0),
  (5, 6, .aload_n 0, 1, 1, 0, [], 0),
  (6, 9, .getfield 22, 18, 3, 4, [], 141),
  (9, 12, .if_icmp .ge 7, 15, 16, 3, [], 0),
  (12, 13, .iconst 1, 0, 0, 1, [], 0),
  (13, 16, .goto 4, 16, 17, 0, [], 0),
  (16, 17, .iconst 0, 0, 0, 0, [], 0),
  (17, 18, .ireturn, 29, 0, 1, [], 0)]
/-- PuddingHobs$Hob.has(I)Z -/
def hm_T32 : hm_X := (yX3_has, prog_5_method_3_code, 2, (some .boolean), false, 2, [511, 59, 509, 510], hm_P32)
def hm_P33 : List hm_I := [
  (0, 1, .aload_n 0, 1, 1, 0, [], 0),
  (1, 4, .getfield 26, 18, 3, 8, [], 155),
  (4, 5, .iload_n 1, 1, 0, 1, [], 0),
  (5, 6, .ishr, 4, 0, 7, [], 0),
  (6, 7, .iconst 1, 0, 0, 1, [], 0),
  (7, 8, .iand, 4, 0, 3, [], 0),
  (8, 9, .iconst 1, 0, 0, 1, [], 0),
  (9, 12, .if_icmp .ne 7, 15, 16, 1, [], 0),
  (12, 13, .iconst 1, 0, 0, 1, [], 0),
  (13, 16, .goto 4, 16, 17, 0, [], 0),
  (16, 17, .iconst 0, 0, 0, 0, [], 0),
  (17, 18, .ireturn, 29, 0, 1, [], 0)]
/-- PuddingHobs$Hob.isOn(I)Z -/
def hm_T33 : hm_X := (yX3_isOn, prog_5_method_4_code, 2, (some .boolean), false, 2, [473, 59, 471, 472], hm_P33)
def hm_P34 : List hm_I := [
  (0, 1, .aload_n 0, 1, 1, 0, [], 0),
  (1, 4, .getfield 29, 18, 3, 9, [], 159),
  (4, 5, .iload_n 1, 1, 0, 1, [], 0),
  (5, 6, .ishr, 4, 0, 7, [], 0),
  (6, 7, .iconst 1, 0, 0, 1, [], 0),
  (7, 8, .iand, 4, 0, 3, [], 0),
  (8, 9, .iconst 1, 0, 0, 1, [], 0),
  (9, 12, .if_icmp .ne 7, 15, 16, 1, [], 0),
  (12, 13, .iconst 1, 0, 0, 1, [], 0),
  (13, 16, .goto 4, 16, 17, 0, [], 0),
  (16, 17, .iconst 0, 0, 0, 0, [], 0),
  (17, 18, .ireturn, 29, 0, 1, [], 0)]
/-- PuddingHobs$Hob.isBurst(I)Z -/
def hm_T34 : hm_X := (yX3_isBurst, prog_5_method_5_code, 2, (some .boolean), false, 2, [465, 59, 463, 464], hm_P34)
def hm_P35 : List hm_I := [
  (0, 1, .aload_n 0, 1, 1, 0, [], 0),
  (1, 4, .getfield 32, 18, 3, 10, [], 161),
  (4, 5, .iload_n 1, 1, 0, 1, [], 0),
  (5, 6, .ishr, 4, 0, 7, [], 0),
  (6, 7, .iconst 1, 0, 0, 1, [], 0),
  (7, 8, .iand, 4, 0, 3, [], 0),
  (8, 9, .iconst 1, 0, 0, 1, [], 0),
  (9, 12, .if_icmp .ne 7, 15, 16, 1, [], 0),
  (12, 13, .iconst 1, 0, 0, 1, [], 0),
  (13, 16, .goto 4, 16, 17, 0, [], 0),
  (16, 17, .iconst 0, 0, 0, 0, [], 0),
  (17, 18, .ireturn, 29, 0, 1, [], 0)]
/-- PuddingHobs$Hob.isStirred(I)Z -/
def hm_T35 : hm_X := (yX3_isStirred, prog_5_method_6_code, 2, (some .boolean), false, 2, [480, 59, 479, 11], hm_P35)
def hm_P36 : List hm_I := [
  (0, 1, .aload_n 0, 1, 1, 0, [], 0),
  (1, 2, .iconst 0, 0, 0, 0, [], 0),
  (2, 5, .putfield 22, 19, 3, 4, [], 141),
  (5, 6, .aload_n 0, 1, 1, 0, [], 0),
  (6, 7, .iconst 0, 0, 0, 0, [], 0),
  (7, 10, .putfield 35, 19, 3, 5, [], 145),
  (10, 11, .aload_n 0, 1, 1, 0, [], 0),
  (11, 12, .iconst 0, 0, 0, 0, [], 0),
  (12, 15, .putfield 38, 19, 3, 6, [], 149),
  (15, 16, .aload_n 0, 1, 1, 0, [], 0),
  (16, 17, .iconst 0, 0, 0, 0, [], 0),
  (17, 20, .putfield 41, 19, 3, 7, [], 153),
  (20, 21, .aload_n 0, 1, 1, 0, [], 0),
  (21, 22, .iconst 0, 0, 0, 0, [], 0),
  (22, 25, .putfield 26, 19, 3, 8, [], 155),
  (25, 26, .aload_n 0, 1, 1, 0, [], 0),
  (26, 27, .iconst 0, 0, 0, 0, [], 0),
  (27, 30, .putfield 29, 19, 3, 9, [], 159),
  (30, 31, .aload_n 0, 1, 1, 0, [], 0),
  (31, 32, .iconst 0, 0, 0, 0, [], 0),
  (32, 35, .putfield 32, 19, 3, 10, [], 161),
  (35, 36, .return_, 30, 0, 0, [], 0)]
/-- PuddingHobs$Hob.clear()V -/
def hm_T36 : hm_X := (yX3_clear, prog_5_method_7_code, 1, none, false, 1, [371, 59, 369, 370], hm_P36)
def hm_P37 : List hm_I := [
  (0, 1, .aload_n 0, 1, 1, 0, [], 0),
  (1, 4, .getfield 22, 18, 3, 4, [], 141),
  (4, 6, .bipush 7, 0, 0, 7, [], 0),
  (6, 9, .if_icmp .lt 4, 15, 10, 2, [], 0),
  (9, 10, .return_, 30, 0, 0, [], 0),
  (10, 11, .aload_n 0, 1, 1, 0, [], 0),
  (11, 14, .getfield 9, 18, 3, 0, [], 127),
  (14, 15, .aload_n 0, 1, 1, 0, [], 0),
  (15, 18, .getfield 22, 18, 3, 4, [], 141),
  (18, 19, .iload_n 1, 1, 0, 1, [], 0),
  (19, 20, .iastore, 21, 0, 0, [], 0),
  (20, 21, .aload_n 0, 1, 1, 0, [], 0),
  (21, 24, .getfield 13, 18, 3, 1, [], 131),
  (24, 25, .aload_n 0, 1, 1, 0, [], 0),
  (25, 28, .getfield 22, 18, 3, 4, [], 141),
  (28, 29, .iload_n 2, 1, 0, 2, [], 0),
  (29, 30, .iastore, 21, 0, 0, [], 0),
  (30, 31, .aload_n 0, 1, 1, 0, [], 0),
  (31, 34, .getfield 16, 18, 3, 2, [], 135),
  (34, 35, .aload_n 0, 1, 1, 0, [], 0),
  (35, 38, .getfield 22, 18, 3, 4, [], 141),
  (38, 39, .iload_n 3, 1, 0, 3, [], 0),
  (39, 40, .iastore, 21, 0, 0, [], 0),
  (40, 41, .aload_n 0, 1, 1, 0, [], 0),
  (41, 44, .getfield 19, 18, 3, 3, [], 139),
  (44, 45, .aload_n 0, 1, 1, 0, [], 0),
  (45, 48, .getfield 22, 18, 3, 4, [], 141),
  (48, 49, .aload_n 0, 1, 1, 0, [], 0),
  (49, 52, .getfield 22, 18, 3, 4, [], 141),
  (52, 53, .iastore, 21, 0, 0, [], 0),
  (53, 54, .aload_n 0, 1, 1, 0, [], 0),
  (54, 55, .dup, 24, 0, 0, [], 0),
  (55, 58, .getfield 26, 18, 3, 8, [], 155),
  (58, 59, .iconst 1, 0, 0, 1, [], 0),
  (59, 60, .aload_n 0, 1, 1, 0, [], 0),
  (60, 63, .getfield 22, 18, 3, 4, [], 141),
  (63, 64, .ishl, 4, 0, 6, [], 0),
  (64, 65, .ior, 4, 0, 4, [], 0),
  (65, 68, .putfield 26, 19, 3, 8, [], 155),
  (68, 69, .aload_n 0, 1, 1, 0, [], 0),
  (69, 70, .dup, 24, 0, 0, [], 0),
  (70, 73, .getfield 22, 18, 3, 4, [], 141),
  (73, 74, .iconst 1, 0, 0, 1, [], 0),
  (74, 75, .iadd, 4, 0, 0, [], 0),
  (75, 78, .putfield 22, 19, 3, 4, [], 141),
  (78, 79, .return_, 30, 0, 0, [], 0)]
/-- PuddingHobs$Hob.add(III)V -/
def hm_T37 : hm_X := (yX3_add, prog_5_method_8_code, 4, none, false, 4, [411, 59, 409, 410], hm_P37)
def hm_P38 : List hm_I := [
  (0, 1, .aload_n 1, 1, 1, 1, [], 0),
  (1, 4, .getfield 9, 18, 3, 0, [], 127),
  (4, 5, .iconst 0, 0, 0, 0, [], 0),
  (5, 6, .aload_n 0, 1, 1, 0, [], 0),
  (6, 9, .getfield 9, 18, 3, 0, [], 127),
  (9, 10, .iconst 0, 0, 0, 0, [], 0),
  (10, 12, .bipush 7, 0, 0, 7, [], 0),
  (12, 15, .invokestatic 44, 28, 0, 0, [], 421),
  (15, 16, .aload_n 1, 1, 1, 1, [], 0),
  (16, 19, .getfield 13, 18, 3, 1, [], 131),
  (19, 20, .iconst 0, 0, 0, 0, [], 0),
  (20, 21, .aload_n 0, 1, 1, 0, [], 0),
  (21, 24, .getfield 13, 18, 3, 1, [], 131),
  (24, 25, .iconst 0, 0, 0, 0, [], 0),
  (25, 27, .bipush 7, 0, 0, 7, [], 0),
  (27, 30, .invokestatic 44, 28, 0, 0, [], 421),
  (30, 31, .aload_n 1, 1, 1, 1, [], 0),
  (31, 34, .getfield 16, 18, 3, 2, [], 135),
  (34, 35, .iconst 0, 0, 0, 0, [], 0),
  (35, 36, .aload_n 0, 1, 1, 0, [], 0),
  (36, 39, .getfield 16, 18, 3, 2, [], 135),
  (39, 40, .iconst 0, 0, 0, 0, [], 0),
  (40, 42, .bipush 7, 0, 0, 7, [], 0),
  (42, 45, .invokestatic 44, 28, 0, 0, [], 421),
  (45, 46, .aload_n 1, 1, 1, 1, [], 0),
  (46, 49, .getfield 19, 18, 3, 3, [], 139),
  (49, 50, .iconst 0, 0, 0, 0, [], 0),
  (50, 51, .aload_n 0, 1, 1, 0, [], 0),
  (51, 54, .getfield 19, 18, 3, 3, [], 139),
  (54, 55, .iconst 0, 0, 0, 0, [], 0),
  (55, 57, .bipush 7, 0, 0, 7, [], 0),
  (57, 60, .invokestatic 44, 28, 0, 0, [], 421),
  (60, 61, .aload_n 0, 1, 1, 0, [], 0),
  (61, 62, .aload_n 1, 1, 1, 1, [], 0),
  (62, 65, .getfield 22, 18, 3, 4, [], 141),
  (65, 68, .putfield 22, 19, 3, 4, [], 141),
  (68, 69, .aload_n 0, 1, 1, 0, [], 0),
  (69, 70, .aload_n 1, 1, 1, 1, [], 0),
  (70, 73, .getfield 35, 18, 3, 5, [], 145),
  (73, 76, .putfield 35, 19, 3, 5, [], 145),
  (76, 77, .aload_n 0, 1, 1, 0, [], 0),
  (77, 78, .aload_n 1, 1, 1, 1, [], 0),
  (78, 81, .getfield 38, 18, 3, 6, [], 149),
  (81, 84, .putfield 38, 19, 3, 6, [], 149),
  (84, 85, .aload_n 0, 1, 1, 0, [], 0),
  (85, 86, .aload_n 1, 1, 1, 1, [], 0),
  (86, 89, .getfield 41, 18, 3, 7, [], 153),
  (89, 92, .putfield 41, 19, 3, 7, [], 153),
  (92, 93, .aload_n 0, 1, 1, 0, [], 0),
  (93, 94, .aload_n 1, 1, 1, 1, [], 0),
  (94, 97, .getfield 26, 18, 3, 8, [], 155),
  (97, 100, .putfield 26, 19, 3, 8, [], 155),
  (100, 101, .aload_n 0, 1, 1, 0, [], 0),
  (101, 102, .aload_n 1, 1, 1, 1, [], 0),
  (102, 105, .getfield 29, 18, 3, 9, [], 159),
  (105, 108, .putfield 29, 19, 3, 9, [], 159),
  (108, 109, .aload_n 0, 1, 1, 0, [], 0),
  (109, 110, .aload_n 1, 1, 1, 1, [], 0),
  (110, 113, .getfield 32, 18, 3, 10, [], 161),
  (113, 116, .putfield 32, 19, 3, 10, [], 161),
  (116, 117, .return_, 30, 0, 0, [], 0)]
/-- PuddingHobs$Hob.takeFrom(LPuddingHobs$Hob;)V -/
def hm_T38 : hm_X := (yX3_takeFrom, prog_5_method_9_code, 2, none, false, 2, [420, 59, 418, 419], hm_P38)
def hm_P39 : List hm_I := [
  (0, 1, .iload_n 2, 1, 0, 2, [], 0),
  (1, 2, .istore_n 3, 2, 0, 3, [], 0),
  (2, 3, .aload_n 0, 1, 1, 0, [], 0),
  (3, 6, .getfield 9, 18, 3, 0, [], 127),
  (6, 7, .iconst 0, 0, 0, 0, [], 0),
  (7, 8, .aload_n 1, 1, 1, 1, [], 0),
  (8, 9, .iload_n 3, 1, 0, 3, [], 0),
  (9, 11, .bipush 7, 0, 0, 7, [], 0),
  (11, 14, .invokestatic 44, 28, 0, 0, [], 421),
  (14, 17, .iinc 3 7, 3, 7, 3, [], 0),
  (17, 18, .aload_n 0, 1, 1, 0, [], 0),
  (18, 21, .getfield 13, 18, 3, 1, [], 131),
  (21, 22, .iconst 0, 0, 0, 0, [], 0),
  (22, 23, .aload_n 1, 1, 1, 1, [], 0),
  (23, 24, .iload_n 3, 1, 0, 3, [], 0),
  (24, 26, .bipush 7, 0, 0, 7, [], 0),
  (26, 29, .invokestatic 44, 28, 0, 0, [], 421),
  (29, 32, .iinc 3 7, 3, 7, 3, [], 0),
  (32, 33, .aload_n 0, 1, 1, 0, [], 0),
  (33, 36, .getfield 16, 18, 3, 2, [], 135),
  (36, 37, .iconst 0, 0, 0, 0, [], 0),
  (37, 38, .aload_n 1, 1, 1, 1, [], 0),
  (38, 39, .iload_n 3, 1, 0, 3, [], 0),
  (39, 41, .bipush 7, 0, 0, 7, [], 0),
  (41, 44, .invokestatic 44, 28, 0, 0, [], 421),
  (44, 47, .iinc 3 7, 3, 7, 3, [], 0),
  (47, 48, .aload_n 0, 1, 1, 0, [], 0),
  (48, 51, .getfield 19, 18, 3, 3, [], 139),
  (51, 52, .iconst 0, 0, 0, 0, [], 0),
  (52, 53, .aload_n 1, 1, 1, 1, [], 0),
  (53, 54, .iload_n 3, 1, 0, 3, [], 0),
  (54, 56, .bipush 7, 0, 0, 7, [], 0),
  (56, 59, .invokestatic 44, 28, 0, 0, [], 421),
  (59, 62, .iinc 3 7, 3, 7, 3, [], 0),
  (62, 63, .aload_n 1, 1, 1, 1, [], 0),
  (63, 64, .iload_n 3, 1, 0, 3, [], 0),
  (64, 65, .aload_n 0, 1, 1, 0, [], 0),
  (65, 68, .getfield 22, 18, 3, 4, [], 141),
  (68, 69, .iastore, 21, 0, 0, [], 0),
  (69, 70, .aload_n 1, 1, 1, 1, [], 0),
  (70, 71, .iload_n 3, 1, 0, 3, [], 0),
  (71, 72, .iconst 1, 0, 0, 1, [], 0),
  (72, 73, .iadd, 4, 0, 0, [], 0),
  (73, 74, .aload_n 0, 1, 1, 0, [], 0),
  (74, 77, .getfield 35, 18, 3, 5, [], 145),
  (77, 78, .iastore, 21, 0, 0, [], 0),
  (78, 79, .aload_n 1, 1, 1, 1, [], 0),
  (79, 80, .iload_n 3, 1, 0, 3, [], 0),
  (80, 81, .iconst 2, 0, 0, 2, [], 0),
  (81, 82, .iadd, 4, 0, 0, [], 0),
  (82, 83, .aload_n 0, 1, 1, 0, [], 0),
  (83, 86, .getfield 38, 18, 3, 6, [], 149),
  (86, 87, .iastore, 21, 0, 0, [], 0),
  (87, 88, .aload_n 1, 1, 1, 1, [], 0),
  (88, 89, .iload_n 3, 1, 0, 3, [], 0),
  (89, 90, .iconst 3, 0, 0, 3, [], 0),
  (90, 91, .iadd, 4, 0, 0, [], 0),
  (91, 92, .aload_n 0, 1, 1, 0, [], 0),
  (92, 95, .getfield 41, 18, 3, 7, [], 153),
  (95, 96, .iastore, 21, 0, 0, [], 0),
  (96, 97, .aload_n 1, 1, 1, 1, [], 0),
  (97, 98, .iload_n 3, 1, 0, 3, [], 0),
  (98, 99, .iconst 4, 0, 0, 4, [], 0),
  (99, 100, .iadd, 4, 0, 0, [], 0),
  (100, 101, .aload_n 0, 1, 1, 0, [], 0),
  (101, 104, .getfield 26, 18, 3, 8, [], 155),
  (104, 105, .iastore, 21, 0, 0, [], 0),
  (105, 106, .aload_n 1, 1, 1, 1, [], 0),
  (106, 107, .iload_n 3, 1, 0, 3, [], 0),
  (107, 108, .iconst 5, 0, 0, 5, [], 0),
  (108, 109, .iadd, 4, 0, 0, [], 0),
  (109, 110, .aload_n 0, 1, 1, 0, [], 0),
  (110, 113, .getfield 29, 18, 3, 9, [], 159),
  (113, 114, .iastore, 21, 0, 0, [], 0),
  (114, 115, .aload_n 1, 1, 1, 1, [], 0),
  (115, 116, .iload_n 3, 1, 0, 3, [], 0),
  (116, 118, .bipush 6, 0, 0, 6, [], 0),
  (118, 119, .iadd, 4, 0, 0, [], 0),
  (119, 120, .aload_n 0, 1, 1, 0, [], 0),
  (120, 123, .getfield 32, 18, 3, 10, [], 161),
  (123, 124, .iastore, 21, 0, 0, [], 0),
  (124, 125, .return_, 30, 0, 0, [], 0)]
/-- PuddingHobs$Hob.writeTo([II)V -/
def hm_T39 : hm_X := (yX3_writeTo, prog_5_method_10_code, 4, none, false, 3, [450, 59, 448, 449], hm_P39)
def hm_P40 : List hm_I := [
  (0, 1, .iload_n 2, 1, 0, 2, [], 0),
  (1, 2, .istore_n 3, 2, 0, 3, [], 0),
  (2, 3, .aload_n 1, 1, 1, 1, [], 0),
  (3, 4, .iload_n 3, 1, 0, 3, [], 0),
  (4, 5, .aload_n 0, 1, 1, 0, [], 0),
  (5, 8, .getfield 9, 18, 3, 0, [], 127),
  (8, 9, .iconst 0, 0, 0, 0, [], 0),
  (9, 11, .bipush 7, 0, 0, 7, [], 0),
  (11, 14, .invokestatic 44, 28, 0, 0, [], 421),
  (14, 17, .iinc 3 7, 3, 7, 3, [], 0),
  (17, 18, .aload_n 1, 1, 1, 1, [], 0),
  (18, 19, .iload_n 3, 1, 0, 3, [], 0),
  (19, 20, .aload_n 0, 1, 1, 0, [], 0),
  (20, 23, .getfield 13, 18, 3, 1, [], 131),
  (23, 24, .iconst 0, 0, 0, 0, [], 0),
  (24, 26, .bipush 7, 0, 0, 7, [], 0),
  (26, 29, .invokestatic 44, 28, 0, 0, [], 421),
  (29, 32, .iinc 3 7, 3, 7, 3, [], 0),
  (32, 33, .aload_n 1, 1, 1, 1, [], 0),
  (33, 34, .iload_n 3, 1, 0, 3, [], 0),
  (34, 35, .aload_n 0, 1, 1, 0, [], 0),
  (35, 38, .getfield 16, 18, 3, 2, [], 135),
  (38, 39, .iconst 0, 0, 0, 0, [], 0),
  (39, 41, .bipush 7, 0, 0, 7, [], 0),
  (41, 44, .invokestatic 44, 28, 0, 0, [], 421),
  (44, 47, .iinc 3 7, 3, 7, 3, [], 0),
  (47, 48, .aload_n 1, 1, 1, 1, [], 0),
  (48, 49, .iload_n 3, 1, 0, 3, [], 0),
  (49, 50, .aload_n 0, 1, 1, 0, [], 0),
  (50, 53, .getfield 19, 18, 3, 3, [], 139),
  (53, 54, .iconst 0, 0, 0, 0, [], 0),
  (54, 56, .bipush 7, 0, 0, 7, [], 0),
  (56, 59, .invokestatic 44, 28, 0, 0, [], 421),
  (59, 62, .iinc 3 7, 3, 7, 3, [], 0),
  (62, 63, .aload_n 0, 1, 1, 0, [], 0),
  (63, 64, .aload_n 1, 1, 1, 1, [], 0),
  (64, 65, .iload_n 3, 1, 0, 3, [], 0),
  (65, 66, .iaload, 20, 0, 0, [], 0),
  (66, 69, .putfield 22, 19, 3, 4, [], 141),
  (69, 70, .aload_n 0, 1, 1, 0, [], 0),
  (70, 71, .aload_n 1, 1, 1, 1, [], 0),
  (71, 72, .iload_n 3, 1, 0, 3, [], 0),
  (72, 73, .iconst 1, 0, 0, 1, [], 0),
  (73, 74, .iadd, 4, 0, 0, [], 0),
  (74, 75, .iaload, 20, 0, 0, [], 0),
  (75, 78, .putfield 35, 19, 3, 5, [], 145),
  (78, 79, .aload_n 0, 1, 1, 0, [], 0),
  (79, 80, .aload_n 1, 1, 1, 1, [], 0),
  (80, 81, .iload_n 3, 1, 0, 3, [], 0),
  (81, 82, .iconst 2, 0, 0, 2, [], 0),
  (82, 83, .iadd, 4, 0, 0, [], 0),
  (83, 84, .iaload, 20, 0, 0, [], 0),
  (84, 87, .putfield 38, 19, 3, 6, [], 149),
  (87, 88, .aload_n 0, 1, 1, 0, [], 0),
  (88, 89, .aload_n 1, 1, 1, 1, [], 0),
  (89, 90, .iload_n 3, 1, 0, 3, [], 0),
  (90, 91, .iconst 3, 0, 0, 3, [], 0),
  (91, 92, .iadd, 4, 0, 0, [], 0),
  (92, 93, .iaload, 20, 0, 0, [], 0),
  (93, 96, .putfield 41, 19, 3, 7, [], 153),
  (96, 97, .aload_n 0, 1, 1, 0, [], 0),
  (97, 98, .aload_n 1, 1, 1, 1, [], 0),
  (98, 99, .iload_n 3, 1, 0, 3, [], 0),
  (99, 100, .iconst 4, 0, 0, 4, [], 0),
  (100, 101, .iadd, 4, 0, 0, [], 0),
  (101, 102, .iaload, 20, 0, 0, [], 0),
  (102, 105, .putfield 26, 19, 3, 8, [], 155),
  (105, 106, .aload_n 0, 1, 1, 0, [], 0),
  (106, 107, .aload_n 1, 1, 1, 1, [], 0),
  (107, 108, .iload_n 3, 1, 0, 3, [], 0),
  (108, 109, .iconst 5, 0, 0, 5, [], 0),
  (109, 110, .iadd, 4, 0, 0, [], 0),
  (110, 111, .iaload, 20, 0, 0, [], 0),
  (111, 114, .putfield 29, 19, 3, 9, [], 159),
  (114, 115, .aload_n 0, 1, 1, 0, [], 0),
  (115, 116, .aload_n 1, 1, 1, 1, [], 0),
  (116, 117, .iload_n 3, 1, 0, 3, [], 0),
  (117, 119, .bipush 6, 0, 0, 6, [], 0),
  (119, 120, .iadd, 4, 0, 0, [], 0),
  (120, 121, .iaload, 20, 0, 0, [], 0),
  (121, 124, .putfield 32, 19, 3, 10, [], 161),
  (124, 125, .return_, 30, 0, 0, [], 0)]
/-- PuddingHobs$Hob.readFrom([II)V -/
def hm_T40 : hm_X := (yX3_readFrom, prog_5_method_11_code, 4, none, false, 3, [557, 59, 555, 556], hm_P40)
def hm_P41 : List hm_I := [
  (0, 1, .aload_n 0, 1, 1, 0, [], 0),
  (1, 2, .iload_n 1, 1, 0, 1, [], 0),
  (2, 5, .invokevirtual 50, 27, 0, 33, [], 470),
  (5, 8, .ifCond .eq 21, 14, 26, 0, [], 0),
  (8, 9, .iconst 0, 0, 0, 0, [], 0),
  (9, 10, .aload_n 0, 1, 1, 0, [], 0),
  (10, 13, .getfield 35, 18, 3, 5, [], 145),
  (13, 14, .aload_n 0, 1, 1, 0, [], 0),
  (14, 17, .getfield 19, 18, 3, 3, [], 139),
  (17, 18, .iload_n 1, 1, 0, 1, [], 0),
  (18, 19, .iaload, 20, 0, 0, [], 0),
  (19, 20, .isub, 4, 0, 1, [], 0),
  (20, 23, .invokestatic 54, 32, 0, 0, [], 474),
  (23, 26, .goto 4, 16, 27, 0, [], 0),
  (26, 27, .iconst 0, 0, 0, 0, [], 0),
  (27, 28, .ireturn, 29, 0, 0, [], 0)]
/-- PuddingHobs$Hob.glowOf(I)I -/
def hm_T41 : hm_X := (yX3_glowOf, prog_5_method_12_code, 2, (some .int), false, 2, [469, 59, 467, 468], hm_P41)
def hm_P42 : List hm_I := [
  (0, 1, .aload_n 0, 1, 1, 0, [], 0),
  (1, 2, .iload_n 1, 1, 0, 1, [], 0),
  (2, 5, .invokevirtual 60, 27, 0, 34, [], 462),
  (5, 8, .ifCond .eq 5, 14, 10, 0, [], 0),
  (8, 9, .iconst 0, 0, 0, 0, [], 0),
  (9, 10, .ireturn, 29, 0, 0, [], 0),
  (10, 11, .aload_n 0, 1, 1, 0, [], 0),
  (11, 12, .iload_n 1, 1, 0, 1, [], 0),
  (12, 15, .invokevirtual 63, 27, 0, 41, [], 466),
  (15, 16, .istore_n 2, 2, 0, 2, [], 0),
  (16, 17, .aload_n 0, 1, 1, 0, [], 0),
  (17, 20, .getfield 9, 18, 3, 0, [], 127),
  (20, 21, .iload_n 1, 1, 0, 1, [], 0),
  (21, 22, .iaload, 20, 0, 0, [], 0),
  (22, 52, .tableswitch 83 2 5 #[30, 49, 53, 67], 17, 105, 0, [(2, 52), (3, 71), (4, 75), (5, 89)], 0),
  (52, 53, .iload_n 2, 1, 0, 2, [], 0),
  (53, 56, .ifCond .le 16, 14, 69, 5, [], 0),
  (56, 57, .iload_n 2, 1, 0, 2, [], 0),
  (57, 58, .aload_n 0, 1, 1, 0, [], 0),
  (58, 61, .getfield 13, 18, 3, 1, [], 131),
  (61, 62, .iload_n 1, 1, 0, 1, [], 0),
  (62, 63, .iaload, 20, 0, 0, [], 0),
  (63, 64, .iconst 4, 0, 0, 4, [], 0),
  (64, 65, .idiv, 5, 0, 0, [], 0),
  (65, 66, .iadd, 4, 0, 0, [], 0),
  (66, 69, .goto 4, 16, 70, 0, [], 0),
  (69, 70, .iconst 0, 0, 0, 0, [], 0),
  (70, 71, .ireturn, 29, 0, 0, [], 0),
  (71, 72, .iload_n 2, 1, 0, 2, [], 0),
  (72, 73, .iconst 2, 0, 0, 2, [], 0),
  (73, 74, .idiv, 5, 0, 0, [], 0),
  (74, 75, .ireturn, 29, 0, 0, [], 0),
  (75, 76, .aload_n 0, 1, 1, 0, [], 0),
  (76, 77, .iload_n 1, 1, 0, 1, [], 0),
  (77, 80, .invokevirtual 67, 27, 0, 35, [], 477),
  (80, 83, .ifCond .eq 7, 14, 87, 0, [], 0),
  (83, 84, .iload_n 2, 1, 0, 2, [], 0),
  (84, 87, .goto 4, 16, 88, 0, [], 0),
  (87, 88, .iconst 0, 0, 0, 0, [], 0),
  (88, 89, .ireturn, 29, 0, 0, [], 0),
  (89, 90, .aload_n 0, 1, 1, 0, [], 0),
  (90, 91, .iload_n 1, 1, 0, 1, [], 0),
  (91, 94, .invokevirtual 67, 27, 0, 35, [], 477),
  (94, 97, .ifCond .eq 9, 14, 103, 0, [], 0),
  (97, 98, .iconst 2, 0, 0, 2, [], 0),
  (98, 99, .iload_n 2, 1, 0, 2, [], 0),
  (99, 100, .imul, 4, 0, 2, [], 0),
  (100, 103, .goto 4, 16, 104, 0, [], 0),
  (103, 104, .iconst 0, 0, 0, 0, [], 0),
  (104, 105, .ireturn, 29, 0, 0, [], 0),
  (105, 106, .iload_n 2, 1, 0, 2, [], 0),
  (106, 107, .ireturn, 29, 0, 0, [], 0)]
/-- PuddingHobs$Hob.growthOf(I)I -/
def hm_T42 : hm_X := (yX3_growthOf, prog_5_method_13_code, 3, (some .int), false, 2, [461, 59, 459, 460], hm_P42)
def hm_P43 : List hm_I := [
  (0, 1, .iconst 0, 0, 0, 0, [], 0),
  (1, 2, .istore_n 1, 2, 0, 1, [], 0),
  (2, 3, .iconst 0, 0, 0, 0, [], 0),
  (3, 4, .istore_n 2, 2, 0, 2, [], 0),
  (4, 5, .iload_n 2, 1, 0, 2, [], 0),
  (5, 6, .aload_n 0, 1, 1, 0, [], 0),
  (6, 9, .getfield 22, 18, 3, 4, [], 141),
  (9, 12, .if_icmp .ge 27, 15, 36, 3, [], 0),
  (12, 13, .aload_n 0, 1, 1, 0, [], 0),
  (13, 14, .iload_n 2, 1, 0, 2, [], 0),
  (14, 17, .invokevirtual 70, 27, 0, 42, [], 458),
  (17, 18, .istore_n 3, 2, 0, 3, [], 0),
  (18, 19, .iload_n 3, 1, 0, 3, [], 0),
  (19, 22, .ifCond .le 11, 14, 30, 5, [], 0),
  (22, 23, .aload_n 0, 1, 1, 0, [], 0),
  (23, 24, .iload_n 2, 1, 0, 2, [], 0),
  (24, 25, .iload_n 3, 1, 0, 3, [], 0),
  (25, 28, .invokevirtual 73, 27, 0, 47, [], 481),
  (28, 29, .iconst 1, 0, 0, 1, [], 0),
  (29, 30, .istore_n 1, 2, 0, 1, [], 0),
  (30, 33, .iinc 2 1, 3, 1, 2, [], 0),
  (33, 36, .goto (-29), 16, 4, 0, [], 0),
  (36, 37, .aload_n 0, 1, 1, 0, [], 0),
  (37, 38, .iconst 0, 0, 0, 0, [], 0),
  (38, 41, .putfield 32, 19, 3, 10, [], 161),
  (41, 42, .aload_n 0, 1, 1, 0, [], 0),
  (42, 45, .invokevirtual 77, 27, 0, 44, [], 486),
  (45, 46, .istore_n 2, 2, 0, 2, [], 0),
  (46, 47, .iconst 0, 0, 0, 0, [], 0),
  (47, 48, .istore_n 3, 2, 0, 3, [], 0),
  (48, 49, .iload_n 2, 1, 0, 2, [], 0),
  (49, 52, .ifCond .eq 35, 14, 84, 0, [], 0),
  (52, 53, .iload_n 3, 1, 0, 3, [], 0),
  (53, 55, .bipush 7, 0, 0, 7, [], 0),
  (55, 58, .if_icmp .ge 29, 15, 84, 3, [], 0),
  (58, 59, .aload_n 0, 1, 1, 0, [], 0),
  (59, 60, .dup, 24, 0, 0, [], 0),
  (60, 63, .getfield 29, 18, 3, 9, [], 159),
  (63, 64, .iload_n 2, 1, 0, 2, [], 0),
  (64, 65, .ior, 4, 0, 4, [], 0),
  (65, 68, .putfield 29, 19, 3, 9, [], 159),
  (68, 69, .aload_n 0, 1, 1, 0, [], 0),
  (69, 70, .iload_n 2, 1, 0, 2, [], 0),
  (70, 73, .invokevirtual 81, 27, 0, 45, [], 490),
  (73, 74, .aload_n 0, 1, 1, 0, [], 0),
  (74, 77, .invokevirtual 77, 27, 0, 44, [], 486),
  (77, 78, .istore_n 2, 2, 0, 2, [], 0),
  (78, 81, .iinc 3 1, 3, 1, 3, [], 0),
  (81, 84, .goto (-33), 16, 48, 0, [], 0),
  (84, 85, .aload_n 0, 1, 1, 0, [], 0),
  (85, 86, .dup, 24, 0, 0, [], 0),
  (86, 89, .getfield 41, 18, 3, 7, [], 153),
  (89, 90, .iconst 1, 0, 0, 1, [], 0),
  (90, 91, .iadd, 4, 0, 0, [], 0),
  (91, 94, .putfield 41, 19, 3, 7, [], 153),
  (94, 95, .iload_n 1, 1, 0, 1, [], 0),
  (95, 96, .ireturn, 29, 0, 1, [], 0)]
/-- PuddingHobs$Hob.boil()Z -/
def hm_T43 : hm_X := (yX3_boil, prog_5_method_14_code, 4, (some .boolean), false, 1, [457, 59, 455, 456], hm_P43)
def hm_P44 : List hm_I := [
  (0, 1, .iconst 0, 0, 0, 0, [], 0),
  (1, 2, .istore_n 1, 2, 0, 1, [], 0),
  (2, 3, .iconst 0, 0, 0, 0, [], 0),
  (3, 4, .istore_n 2, 2, 0, 2, [], 0),
  (4, 5, .iload_n 2, 1, 0, 2, [], 0),
  (5, 6, .aload_n 0, 1, 1, 0, [], 0),
  (6, 9, .getfield 22, 18, 3, 4, [], 141),
  (9, 12, .if_icmp .ge 36, 15, 45, 3, [], 0),
  (12, 13, .aload_n 0, 1, 1, 0, [], 0),
  (13, 14, .iload_n 2, 1, 0, 2, [], 0),
  (14, 17, .invokevirtual 60, 27, 0, 34, [], 462),
  (17, 20, .ifCond .ne 22, 14, 39, 1, [], 0),
  (20, 21, .aload_n 0, 1, 1, 0, [], 0),
  (21, 24, .getfield 16, 18, 3, 2, [], 135),
  (24, 25, .iload_n 2, 1, 0, 2, [], 0),
  (25, 26, .iaload, 20, 0, 0, [], 0),
  (26, 27, .aload_n 0, 1, 1, 0, [], 0),
  (27, 30, .getfield 38, 18, 3, 6, [], 149),
  (30, 33, .if_icmp .le 9, 15, 39, 5, [], 0),
  (33, 34, .iload_n 1, 1, 0, 1, [], 0),
  (34, 35, .iconst 1, 0, 0, 1, [], 0),
  (35, 36, .iload_n 2, 1, 0, 2, [], 0),
  (36, 37, .ishl, 4, 0, 6, [], 0),
  (37, 38, .ior, 4, 0, 4, [], 0),
  (38, 39, .istore_n 1, 2, 0, 1, [], 0),
  (39, 42, .iinc 2 1, 3, 1, 2, [], 0),
  (42, 45, .goto (-38), 16, 4, 0, [], 0),
  (45, 46, .iload_n 1, 1, 0, 1, [], 0),
  (46, 47, .ireturn, 29, 0, 0, [], 0)]
/-- PuddingHobs$Hob.aboveCloth()I -/
def hm_T44 : hm_X := (yX3_aboveCloth, prog_5_method_15_code, 3, (some .int), false, 1, [489, 59, 488, 13], hm_P44)
def hm_P45 : List hm_I := [
  (0, 1, .aload_n 0, 1, 1, 0, [], 0),
  (1, 2, .iload_n 1, 1, 0, 1, [], 0),
  (2, 5, .invokevirtual 85, 27, 0, 46, [], 494),
  (5, 6, .istore_n 2, 2, 0, 2, [], 0),
  (6, 7, .iconst 0, 0, 0, 0, [], 0),
  (7, 8, .istore_n 3, 2, 0, 3, [], 0),
  (8, 9, .iload_n 3, 1, 0, 3, [], 0),
  (9, 10, .aload_n 0, 1, 1, 0, [], 0),
  (10, 13, .getfield 22, 18, 3, 4, [], 141),
  (13, 16, .if_icmp .ge 52, 15, 65, 3, [], 0),
  (16, 17, .aload_n 0, 1, 1, 0, [], 0),
  (17, 18, .iload_n 3, 1, 0, 3, [], 0),
  (18, 21, .invokevirtual 60, 27, 0, 34, [], 462),
  (21, 24, .ifCond .ne 38, 14, 59, 1, [], 0),
  (24, 25, .iconst 1, 0, 0, 1, [], 0),
  (25, 26, .aload_n 0, 1, 1, 0, [], 0),
  (26, 29, .getfield 19, 18, 3, 3, [], 139),
  (29, 30, .iload_n 3, 1, 0, 3, [], 0),
  (30, 31, .iaload, 20, 0, 0, [], 0),
  (31, 32, .ishl, 4, 0, 6, [], 0),
  (32, 34, .istore 4, 2, 0, 4, [], 0),
  (34, 36, .iload 4, 1, 0, 4, [], 0),
  (36, 37, .iconst 1, 0, 0, 1, [], 0),
  (37, 38, .ishl, 4, 0, 6, [], 0),
  (38, 40, .iload 4, 1, 0, 4, [], 0),
  (40, 41, .iconst 1, 0, 0, 1, [], 0),
  (41, 42, .ishr, 4, 0, 7, [], 0),
  (42, 43, .ior, 4, 0, 4, [], 0),
  (43, 45, .istore 5, 2, 0, 5, [], 0),
  (45, 46, .aload_n 0, 1, 1, 0, [], 0),
  (46, 47, .iload_n 3, 1, 0, 3, [], 0),
  (47, 48, .iconst 3, 0, 0, 3, [], 0),
  (48, 49, .iload_n 2, 1, 0, 2, [], 0),
  (49, 51, .iload 5, 1, 0, 5, [], 0),
  (51, 52, .iand, 4, 0, 3, [], 0),
  (52, 55, .invokestatic 88, 27, 0, 207, [], 498),
  (55, 56, .imul, 4, 0, 2, [], 0),
  (56, 59, .invokevirtual 73, 27, 0, 47, [], 481),
  (59, 62, .iinc 3 1, 3, 1, 3, [], 0),
  (62, 65, .goto (-54), 16, 8, 0, [], 0),
  (65, 66, .return_, 30, 0, 0, [], 0)]
/-- PuddingHobs$Hob.pushNeighbours(I)V -/
def hm_T45 : hm_X := (yX3_pushNeighbours, prog_5_method_16_code, 6, none, false, 2, [493, 59, 492, 14], hm_P45)
def hm_P46 : List hm_I := [
  (0, 1, .iconst 0, 0, 0, 0, [], 0),
  (1, 2, .istore_n 2, 2, 0, 2, [], 0),
  (2, 3, .iconst 0, 0, 0, 0, [], 0),
  (3, 4, .istore_n 3, 2, 0, 3, [], 0),
  (4, 5, .iload_n 3, 1, 0, 3, [], 0),
  (5, 6, .aload_n 0, 1, 1, 0, [], 0),
  (6, 9, .getfield 22, 18, 3, 4, [], 141),
  (9, 12, .if_icmp .ge 29, 15, 38, 3, [], 0),
  (12, 13, .iload_n 1, 1, 0, 1, [], 0),
  (13, 14, .iload_n 3, 1, 0, 3, [], 0),
  (14, 15, .ishr, 4, 0, 7, [], 0),
  (15, 16, .iconst 1, 0, 0, 1, [], 0),
  (16, 17, .iand, 4, 0, 3, [], 0),
  (17, 18, .iconst 1, 0, 0, 1, [], 0),
  (18, 21, .if_icmp .ne 14, 15, 32, 1, [], 0),
  (21, 22, .iload_n 2, 1, 0, 2, [], 0),
  (22, 23, .iconst 1, 0, 0, 1, [], 0),
  (23, 24, .aload_n 0, 1, 1, 0, [], 0),
  (24, 27, .getfield 19, 18, 3, 3, [], 139),
  (27, 28, .iload_n 3, 1, 0, 3, [], 0),
  (28, 29, .iaload, 20, 0, 0, [], 0),
  (29, 30, .ishl, 4, 0, 6, [], 0),
  (30, 31, .ior, 4, 0, 4, [], 0),
  (31, 32, .istore_n 2, 2, 0, 2, [], 0),
  (32, 35, .iinc 3 1, 3, 1, 3, [], 0),
  (35, 38, .goto (-31), 16, 4, 0, [], 0),
  (38, 39, .iload_n 2, 1, 0, 2, [], 0),
  (39, 40, .ireturn, 29, 0, 0, [], 0)]
/-- PuddingHobs$Hob.placesOf(I)I -/
def hm_T46 : hm_X := (yX3_placesOf, prog_5_method_17_code, 4, (some .int), false, 2, [497, 59, 496, 15], hm_P46)
def hm_P47 : List hm_I := [
  (0, 1, .aload_n 0, 1, 1, 0, [], 0),
  (1, 4, .getfield 16, 18, 3, 2, [], 135),
  (4, 5, .iload_n 1, 1, 0, 1, [], 0),
  (5, 7, .bipush 99, 0, 0, 99, [], 0),
  (7, 8, .aload_n 0, 1, 1, 0, [], 0),
  (8, 11, .getfield 16, 18, 3, 2, [], 135),
  (11, 12, .iload_n 1, 1, 0, 1, [], 0),
  (12, 13, .iaload, 20, 0, 0, [], 0),
  (13, 14, .iload_n 2, 1, 0, 2, [], 0),
  (14, 15, .iadd, 4, 0, 0, [], 0),
  (15, 18, .invokestatic 93, 33, 0, 0, [], 485),
  (18, 19, .iastore, 21, 0, 0, [], 0),
  (19, 20, .return_, 30, 0, 0, [], 0)]
/-- PuddingHobs$Hob.raise(II)V -/
def hm_T47 : hm_X := (yX3_raise, prog_5_method_18_code, 3, none, false, 3, [484, 59, 483, 12], hm_P47)
def hm_P48 : List hm_I := [
  (0, 1, .aload_n 0, 1, 1, 0, [], 0),
  (1, 4, .getfield 16, 18, 3, 2, [], 135),
  (4, 5, .iload_n 1, 1, 0, 1, [], 0),
  (5, 6, .iconst 0, 0, 0, 0, [], 0),
  (6, 7, .aload_n 0, 1, 1, 0, [], 0),
  (7, 10, .getfield 16, 18, 3, 2, [], 135),
  (10, 11, .iload_n 1, 1, 0, 1, [], 0),
  (11, 12, .iaload, 20, 0, 0, [], 0),
  (12, 13, .iconst 2, 0, 0, 2, [], 0),
  (13, 14, .isub, 4, 0, 1, [], 0),
  (14, 17, .invokestatic 54, 32, 0, 0, [], 474),
  (17, 18, .iastore, 21, 0, 0, [], 0),
  (18, 19, .aload_n 0, 1, 1, 0, [], 0),
  (19, 20, .dup, 24, 0, 0, [], 0),
  (20, 23, .getfield 32, 18, 3, 10, [], 161),
  (23, 24, .iconst 1, 0, 0, 1, [], 0),
  (24, 25, .iload_n 1, 1, 0, 1, [], 0),
  (25, 26, .ishl, 4, 0, 6, [], 0),
  (26, 27, .ior, 4, 0, 4, [], 0),
  (27, 30, .putfield 32, 19, 3, 10, [], 161),
  (30, 31, .return_, 30, 0, 0, [], 0)]
/-- PuddingHobs$Hob.stirOnce(I)V -/
def hm_T48 : hm_X := (yX3_stirOnce, prog_5_method_19_code, 2, none, false, 2, [516, 59, 514, 515], hm_P48)
def hm_P49 : List hm_I := [
  (0, 1, .aload_n 0, 1, 1, 0, [], 0),
  (1, 2, .dup, 24, 0, 0, [], 0),
  (2, 5, .getfield 26, 18, 3, 8, [], 155),
  (5, 6, .iconst 1, 0, 0, 1, [], 0),
  (6, 7, .iload_n 1, 1, 0, 1, [], 0),
  (7, 8, .ishl, 4, 0, 6, [], 0),
  (8, 9, .ixor, 4, 0, 5, [], 0),
  (9, 12, .putfield 26, 19, 3, 8, [], 155),
  (12, 13, .return_, 30, 0, 0, [], 0)]
/-- PuddingHobs$Hob.turn(I)V -/
def hm_T49 : hm_X := (yX3_turn, prog_5_method_20_code, 2, none, false, 2, [528, 59, 526, 527], hm_P49)
def hm_P50 : List hm_I := [
  (0, 1, .aload_n 0, 1, 1, 0, [], 0),
  (1, 4, .getfield 19, 18, 3, 3, [], 139),
  (4, 5, .iload_n 1, 1, 0, 1, [], 0),
  (5, 6, .iaload, 20, 0, 0, [], 0),
  (6, 7, .istore_n 3, 2, 0, 3, [], 0),
  (7, 8, .aload_n 0, 1, 1, 0, [], 0),
  (8, 11, .getfield 19, 18, 3, 3, [], 139),
  (11, 12, .iload_n 1, 1, 0, 1, [], 0),
  (12, 13, .aload_n 0, 1, 1, 0, [], 0),
  (13, 16, .getfield 19, 18, 3, 3, [], 139),
  (16, 17, .iload_n 2, 1, 0, 2, [], 0),
  (17, 18, .iaload, 20, 0, 0, [], 0),
  (18, 19, .iastore, 21, 0, 0, [], 0),
  (19, 20, .aload_n 0, 1, 1, 0, [], 0),
  (20, 23, .getfield 19, 18, 3, 3, [], 139),
  (23, 24, .iload_n 2, 1, 0, 2, [], 0),
  (24, 25, .iload_n 3, 1, 0, 3, [], 0),
  (25, 26, .iastore, 21, 0, 0, [], 0),
  (26, 27, .return_, 30, 0, 0, [], 0)]
/-- PuddingHobs$Hob.exchange(II)V -/
def hm_T50 : hm_X := (yX3_exchange, prog_5_method_21_code, 4, none, false, 3, [536, 59, 534, 535], hm_P50)
def hm_P51 : List hm_I := [
  (0, 1, .iconst 0, 0, 0, 0, [], 0),
  (1, 2, .istore_n 1, 2, 0, 1, [], 0),
  (2, 3, .iconst 0, 0, 0, 0, [], 0),
  (3, 4, .istore_n 2, 2, 0, 2, [], 0),
  (4, 5, .iload_n 2, 1, 0, 2, [], 0),
  (5, 6, .aload_n 0, 1, 1, 0, [], 0),
  (6, 9, .getfield 22, 18, 3, 4, [], 141),
  (9, 12, .if_icmp .ge 26, 15, 35, 3, [], 0),
  (12, 13, .aload_n 0, 1, 1, 0, [], 0),
  (13, 14, .iload_n 2, 1, 0, 2, [], 0),
  (14, 17, .invokevirtual 60, 27, 0, 34, [], 462),
  (17, 20, .ifCond .ne 12, 14, 29, 1, [], 0),
  (20, 21, .iload_n 1, 1, 0, 1, [], 0),
  (21, 22, .aload_n 0, 1, 1, 0, [], 0),
  (22, 25, .getfield 16, 18, 3, 2, [], 135),
  (25, 26, .iload_n 2, 1, 0, 2, [], 0),
  (26, 27, .iaload, 20, 0, 0, [], 0),
  (27, 28, .iadd, 4, 0, 0, [], 0),
  (28, 29, .istore_n 1, 2, 0, 1, [], 0),
  (29, 32, .iinc 2 1, 3, 1, 2, [], 0),
  (32, 35, .goto (-28), 16, 4, 0, [], 0),
  (35, 36, .iload_n 1, 1, 0, 1, [], 0),
  (36, 37, .ireturn, 29, 0, 0, [], 0)]
/-- PuddingHobs$Hob.swellTogether()I -/
def hm_T51 : hm_X := (yX3_swellTogether, prog_5_method_22_code, 3, (some .int), false, 1, [746, 59, 744, 745], hm_P51)
def hm_P52 : List hm_I := [
  (0, 1, .aload_n 0, 1, 1, 0, [], 0),
  (1, 4, .invokevirtual 96, 27, 0, 53, [], 676),
  (4, 5, .istore_n 3, 2, 0, 3, [], 0),
  (5, 6, .aload_n 0, 1, 1, 0, [], 0),
  (6, 7, .iload_n 1, 1, 0, 1, [], 0),
  (7, 10, .invokevirtual 60, 27, 0, 34, [], 462),
  (10, 13, .ifCond .ne 16, 14, 26, 1, [], 0),
  (13, 14, .aload_n 0, 1, 1, 0, [], 0),
  (14, 17, .getfield 13, 18, 3, 1, [], 131),
  (17, 18, .iload_n 1, 1, 0, 1, [], 0),
  (18, 19, .iaload, 20, 0, 0, [], 0),
  (19, 22, .ifCond .eq 7, 14, 26, 0, [], 0),
  (22, 23, .iload_n 3, 1, 0, 3, [], 0),
  (23, 26, .ifCond .ne 5, 14, 28, 1, [], 0),
  (26, 27, .iconst 0, 0, 0, 0, [], 0),
  (27, 28, .ireturn, 29, 0, 0, [], 0),
  (28, 29, .iload_n 2, 1, 0, 2, [], 0),
  (29, 31, .istore 4, 2, 0, 4, [], 0),
  (31, 32, .iconst 0, 0, 0, 0, [], 0),
  (32, 34, .istore 5, 2, 0, 5, [], 0),
  (34, 35, .iconst 0, 0, 0, 0, [], 0),
  (35, 37, .istore 6, 2, 0, 6, [], 0),
  (37, 39, .iload 6, 1, 0, 6, [], 0),
  (39, 40, .aload_n 0, 1, 1, 0, [], 0),
  (40, 43, .getfield 22, 18, 3, 4, [], 141),
  (43, 46, .if_icmp .ge 53, 15, 96, 3, [], 0),
  (46, 47, .aload_n 0, 1, 1, 0, [], 0),
  (47, 49, .iload 6, 1, 0, 6, [], 0),
  (49, 52, .invokevirtual 60, 27, 0, 34, [], 462),
  (52, 55, .ifCond .ne 38, 14, 90, 1, [], 0),
  (55, 56, .aload_n 0, 1, 1, 0, [], 0),
  (56, 59, .getfield 13, 18, 3, 1, [], 131),
  (59, 61, .iload 6, 1, 0, 6, [], 0),
  (61, 62, .iaload, 20, 0, 0, [], 0),
  (62, 65, .ifCond .le 28, 14, 90, 5, [], 0),
  (65, 67, .iload 4, 1, 0, 4, [], 0),
  (67, 68, .iload_n 2, 1, 0, 2, [], 0),
  (68, 69, .aload_n 0, 1, 1, 0, [], 0),
  (69, 72, .getfield 13, 18, 3, 1, [], 131),
  (72, 74, .iload 6, 1, 0, 6, [], 0),
  (74, 75, .iaload, 20, 0, 0, [], 0),
  (75, 76, .imul, 4, 0, 2, [], 0),
  (76, 77, .iload_n 3, 1, 0, 3, [], 0),
  (77, 78, .idiv, 5, 0, 0, [], 0),
  (78, 79, .isub, 4, 0, 1, [], 0),
  (79, 81, .istore 4, 2, 0, 4, [], 0),
  (81, 83, .iload 6, 1, 0, 6, [], 0),
  (83, 84, .iload_n 1, 1, 0, 1, [], 0),
  (84, 87, .if_icmp .ge 6, 15, 90, 3, [], 0),
  (87, 90, .iinc 5 1, 3, 1, 5, [], 0),
  (90, 93, .iinc 6 1, 3, 1, 6, [], 0),
  (93, 96, .goto (-56), 16, 37, 0, [], 0),
  (96, 97, .iload_n 2, 1, 0, 2, [], 0),
  (97, 98, .aload_n 0, 1, 1, 0, [], 0),
  (98, 101, .getfield 13, 18, 3, 1, [], 131),
  (101, 102, .iload_n 1, 1, 0, 1, [], 0),
  (102, 103, .iaload, 20, 0, 0, [], 0),
  (103, 104, .imul, 4, 0, 2, [], 0),
  (104, 105, .iload_n 3, 1, 0, 3, [], 0),
  (105, 106, .idiv, 5, 0, 0, [], 0),
  (106, 108, .istore 6, 2, 0, 6, [], 0),
  (108, 110, .iload 5, 1, 0, 5, [], 0),
  (110, 112, .iload 4, 1, 0, 4, [], 0),
  (112, 115, .if_icmp .ge 10, 15, 122, 3, [], 0),
  (115, 117, .iload 6, 1, 0, 6, [], 0),
  (117, 118, .iconst 1, 0, 0, 1, [], 0),
  (118, 119, .iadd, 4, 0, 0, [], 0),
  (119, 122, .goto 5, 16, 124, 0, [], 0),
  (122, 124, .iload 6, 1, 0, 6, [], 0),
  (124, 125, .ireturn, 29, 0, 0, [], 0)]
/-- PuddingHobs$Hob.slicesOf(II)I -/
def hm_T52 : hm_X := (yX3_slicesOf, prog_5_method_23_code, 7, (some .int), false, 3, [675, 59, 673, 674], hm_P52)
def hm_P53 : List hm_I := [
  (0, 1, .iconst 0, 0, 0, 0, [], 0),
  (1, 2, .istore_n 1, 2, 0, 1, [], 0),
  (2, 3, .iconst 0, 0, 0, 0, [], 0),
  (3, 4, .istore_n 2, 2, 0, 2, [], 0),
  (4, 5, .iload_n 2, 1, 0, 2, [], 0),
  (5, 6, .aload_n 0, 1, 1, 0, [], 0),
  (6, 9, .getfield 22, 18, 3, 4, [], 141),
  (9, 12, .if_icmp .ge 26, 15, 35, 3, [], 0),
  (12, 13, .aload_n 0, 1, 1, 0, [], 0),
  (13, 14, .iload_n 2, 1, 0, 2, [], 0),
  (14, 17, .invokevirtual 60, 27, 0, 34, [], 462),
  (17, 20, .ifCond .ne 12, 14, 29, 1, [], 0),
  (20, 21, .iload_n 1, 1, 0, 1, [], 0),
  (21, 22, .aload_n 0, 1, 1, 0, [], 0),
  (22, 25, .getfield 13, 18, 3, 1, [], 131),
  (25, 26, .iload_n 2, 1, 0, 2, [], 0),
  (26, 27, .iaload, 20, 0, 0, [], 0),
  (27, 28, .iadd, 4, 0, 0, [], 0),
  (28, 29, .istore_n 1, 2, 0, 1, [], 0),
  (29, 32, .iinc 2 1, 3, 1, 2, [], 0),
  (32, 35, .goto (-28), 16, 4, 0, [], 0),
  (35, 36, .iload_n 1, 1, 0, 1, [], 0),
  (36, 37, .ireturn, 29, 0, 0, [], 0)]
/-- PuddingHobs$Hob.plumsTogether()I -/
def hm_T53 : hm_X := (yX3_plumsTogether, prog_5_method_24_code, 3, (some .int), false, 1, [679, 59, 678, 20], hm_P53)
def hm_P54 : List hm_I := [
  (0, 1, .aload_n 2, 1, 1, 2, [], 0),
  (1, 2, .aload_n 0, 1, 1, 0, [], 0),
  (2, 5, .getfield 9, 18, 4, 0, [], 208),
  (5, 6, .iload_n 1, 1, 0, 1, [], 0),
  (6, 8, .bipush 35, 0, 0, 35, [], 0),
  (8, 9, .imul, 4, 0, 2, [], 0),
  (9, 12, .invokevirtual 15, 27, 0, 39, [], 755),
  (12, 13, .aload_n 0, 1, 1, 0, [], 0),
  (13, 14, .dup, 24, 0, 0, [], 0),
  (14, 17, .getfield 19, 18, 4, 1, [], 209),
  (17, 18, .iconst 1, 0, 0, 1, [], 0),
  (18, 19, .iload_n 1, 1, 0, 1, [], 0),
  (19, 20, .ishl, 4, 0, 6, [], 0),
  (20, 21, .ior, 4, 0, 4, [], 0),
  (21, 24, .putfield 19, 19, 4, 1, [], 209),
  (24, 25, .return_, 30, 0, 0, [], 0)]
/-- PuddingHobs$Images.keep(ILPuddingHobs$Hob;)V -/
def hm_T54 : hm_X := (yX4_keep, prog_6_method_2_code, 3, none, false, 3, [754, 61, 752, 753], hm_P54)
def hm_P55 : List hm_I := [
  (0, 1, .aload_n 0, 1, 1, 0, [], 0),
  (1, 4, .getfield 19, 18, 4, 1, [], 209),
  (4, 5, .iload_n 1, 1, 0, 1, [], 0),
  (5, 6, .ishr, 4, 0, 7, [], 0),
  (6, 7, .iconst 1, 0, 0, 1, [], 0),
  (7, 8, .iand, 4, 0, 3, [], 0),
  (8, 9, .iconst 1, 0, 0, 1, [], 0),
  (9, 12, .if_icmp .ne 7, 15, 16, 1, [], 0),
  (12, 13, .iconst 1, 0, 0, 1, [], 0),
  (13, 16, .goto 4, 16, 17, 0, [], 0),
  (16, 17, .iconst 0, 0, 0, 0, [], 0),
  (17, 18, .ireturn, 29, 0, 1, [], 0)]
/-- PuddingHobs$Images.isKept(I)Z -/
def hm_T55 : hm_X := (yX4_isKept, prog_6_method_3_code, 2, (some .boolean), false, 2, [763, 61, 761, 762], hm_P55)
def hm_P56 : List hm_I := [
  (0, 1, .aload_n 2, 1, 1, 2, [], 0),
  (1, 2, .aload_n 0, 1, 1, 0, [], 0),
  (2, 5, .getfield 9, 18, 4, 0, [], 208),
  (5, 6, .iload_n 1, 1, 0, 1, [], 0),
  (6, 8, .bipush 35, 0, 0, 35, [], 0),
  (8, 9, .imul, 4, 0, 2, [], 0),
  (9, 12, .invokevirtual 23, 27, 0, 40, [], 768),
  (12, 13, .return_, 30, 0, 0, [], 0)]
/-- PuddingHobs$Images.showTo(ILPuddingHobs$Hob;)V -/
def hm_T56 : hm_X := (yX4_showTo, prog_6_method_4_code, 3, none, false, 3, [767, 61, 765, 766], hm_P56)
def hm_P57 : List hm_I := [
  (0, 1, .iload_n 0, 1, 0, 0, [], 0),
  (1, 4, .ifCond .lt 13, 14, 14, 2, [], 0),
  (4, 5, .iload_n 0, 1, 0, 0, [], 0),
  (5, 7, .bipush 8, 0, 0, 8, [], 0),
  (7, 10, .if_icmp .ge 7, 15, 14, 3, [], 0),
  (10, 11, .iconst 1, 0, 0, 1, [], 0),
  (11, 14, .goto 4, 16, 15, 0, [], 0),
  (14, 15, .iconst 0, 0, 0, 0, [], 0),
  (15, 16, .ireturn, 29, 0, 1, [], 0)]
/-- PuddingHobs$Rows.isRow(I)Z -/
def hm_T57 : hm_X := (yX5_isRow, prog_7_method_2_code, 1, (some .boolean), true, 1, [284, 57, 283, 0], hm_P57)
def hm_P58 : List hm_I := [
  (0, 1, .iload_n 0, 1, 0, 0, [], 0),
  (1, 4, .ifCond .lt 12, 14, 13, 2, [], 0),
  (4, 5, .iload_n 0, 1, 0, 0, [], 0),
  (5, 6, .iconst 3, 0, 0, 3, [], 0),
  (6, 9, .if_icmp .ge 7, 15, 13, 3, [], 0),
  (9, 10, .iconst 1, 0, 0, 1, [], 0),
  (10, 13, .goto 4, 16, 14, 0, [], 0),
  (13, 14, .iconst 0, 0, 0, 0, [], 0),
  (14, 15, .ireturn, 29, 0, 1, [], 0)]
/-- PuddingHobs$Rows.isLane(I)Z -/
def hm_T58 : hm_X := (yX5_isLane, prog_7_method_3_code, 1, (some .boolean), true, 1, [287, 57, 286, 0], hm_P58)
def hm_P59 : List hm_I := [
  (0, 1, .aload_n 0, 1, 1, 0, [], 0),
  (1, 4, .getfield 9, 18, 5, 0, [], 82),
  (4, 5, .iload_n 1, 1, 0, 1, [], 0),
  (5, 6, .iaload, 20, 0, 0, [], 0),
  (6, 7, .iconst (-1), 31, (-1), 0, [], 0),
  (7, 10, .if_icmp .ne 7, 15, 14, 1, [], 0),
  (10, 11, .iconst 1, 0, 0, 1, [], 0),
  (11, 14, .goto 4, 16, 15, 0, [], 0),
  (14, 15, .iconst 0, 0, 0, 0, [], 0),
  (15, 16, .ireturn, 29, 0, 1, [], 0)]
/-- PuddingHobs$Rows.isMissing(I)Z -/
def hm_T59 : hm_X := (yX5_isMissing, prog_7_method_4_code, 2, (some .boolean), false, 2, [312, 57, 310, 311], hm_P59)
def hm_P60 : List hm_I := [
  (0, 1, .aload_n 0, 1, 1, 0, [], 0),
  (1, 4, .getfield 9, 18, 5, 0, [], 82),
  (4, 5, .iload_n 1, 1, 0, 1, [], 0),
  (5, 6, .iaload, 20, 0, 0, [], 0),
  (6, 7, .aload_n 0, 1, 1, 0, [], 0),
  (7, 10, .getfield 9, 18, 5, 0, [], 82),
  (10, 11, .iload_n 2, 1, 0, 2, [], 0),
  (11, 12, .iaload, 20, 0, 0, [], 0),
  (12, 15, .if_icmp .ne 7, 15, 19, 1, [], 0),
  (15, 16, .iconst 1, 0, 0, 1, [], 0),
  (16, 19, .goto 4, 16, 20, 0, [], 0),
  (19, 20, .iconst 0, 0, 0, 0, [], 0),
  (20, 21, .ireturn, 29, 0, 1, [], 0)]
/-- PuddingHobs$Rows.haveOneLane(II)Z -/
def hm_T60 : hm_X := (yX5_haveOneLane, prog_7_method_5_code, 3, (some .boolean), false, 3, [331, 57, 329, 330], hm_P60)
def hm_P61 : List hm_I := [
  (0, 1, .iload_n 2, 1, 0, 2, [], 0),
  (1, 4, .ifCond .lt 23, 14, 24, 2, [], 0),
  (4, 5, .iload_n 3, 1, 0, 3, [], 0),
  (5, 8, .ifCond .lt 19, 14, 24, 2, [], 0),
  (8, 9, .iload_n 2, 1, 0, 2, [], 0),
  (9, 10, .aload_n 0, 1, 1, 0, [], 0),
  (10, 13, .getfield 13, 18, 5, 1, [], 83),
  (13, 14, .iload_n 1, 1, 0, 1, [], 0),
  (14, 15, .iaload, 20, 0, 0, [], 0),
  (15, 16, .iload_n 3, 1, 0, 3, [], 0),
  (16, 17, .isub, 4, 0, 1, [], 0),
  (17, 20, .if_icmp .gt 7, 15, 24, 4, [], 0),
  (20, 21, .iconst 1, 0, 0, 1, [], 0),
  (21, 24, .goto 4, 16, 25, 0, [], 0),
  (24, 25, .iconst 0, 0, 0, 0, [], 0),
  (25, 26, .ireturn, 29, 0, 1, [], 0)]
/-- PuddingHobs$Rows.hasRun(III)Z -/
def hm_T61 : hm_X := (yX5_hasRun, prog_7_method_6_code, 4, (some .boolean), false, 4, [316, 57, 314, 315], hm_P61)
def hm_P62 : List hm_I := [
  (0, 1, .iconst 0, 0, 0, 0, [], 0),
  (1, 2, .istore_n 1, 2, 0, 1, [], 0),
  (2, 3, .iconst 0, 0, 0, 0, [], 0),
  (3, 4, .istore_n 2, 2, 0, 2, [], 0),
  (4, 5, .iload_n 2, 1, 0, 2, [], 0),
  (5, 7, .bipush 8, 0, 0, 8, [], 0),
  (7, 10, .if_icmp .ge 20, 15, 27, 3, [], 0),
  (10, 11, .aload_n 0, 1, 1, 0, [], 0),
  (11, 12, .iload_n 2, 1, 0, 2, [], 0),
  (12, 15, .invokevirtual 19, 27, 0, 59, [], 823),
  (15, 18, .ifCond .ne 6, 14, 21, 1, [], 0),
  (18, 21, .iinc 1 1, 3, 1, 1, [], 0),
  (21, 24, .iinc 2 1, 3, 1, 2, [], 0),
  (24, 27, .goto (-20), 16, 4, 0, [], 0),
  (27, 28, .iload_n 1, 1, 0, 1, [], 0),
  (28, 29, .ireturn, 29, 0, 0, [], 0)]
/-- PuddingHobs$Rows.held()I -/
def hm_T62 : hm_X := (yX5_held, prog_7_method_7_code, 3, (some .int), false, 1, [822, 57, 820, 821], hm_P62)
def hm_P63 : List hm_I := [
  (0, 1, .aload_n 0, 1, 1, 0, [], 0),
  (1, 4, .getfield 9, 18, 5, 0, [], 82),
  (4, 5, .iload_n 1, 1, 0, 1, [], 0),
  (5, 6, .iload_n 2, 1, 0, 2, [], 0),
  (6, 7, .iastore, 21, 0, 0, [], 0),
  (7, 8, .aload_n 0, 1, 1, 0, [], 0),
  (8, 11, .getfield 13, 18, 5, 1, [], 83),
  (11, 12, .iload_n 1, 1, 0, 1, [], 0),
  (12, 13, .iload_n 3, 1, 0, 3, [], 0),
  (13, 14, .iastore, 21, 0, 0, [], 0),
  (14, 15, .iload_n 1, 1, 0, 1, [], 0),
  (15, 18, .invokestatic 23, 27, 0, 68, [], 298),
  (18, 20, .istore 4, 2, 0, 4, [], 0),
  (20, 22, .iload 4, 1, 0, 4, [], 0),
  (22, 23, .iload_n 1, 1, 0, 1, [], 0),
  (23, 26, .invokestatic 23, 27, 0, 68, [], 298),
  (26, 27, .iload_n 3, 1, 0, 3, [], 0),
  (27, 28, .iadd, 4, 0, 0, [], 0),
  (28, 31, .if_icmp .ge 17, 15, 45, 3, [], 0),
  (31, 32, .aload_n 0, 1, 1, 0, [], 0),
  (32, 35, .getfield 16, 18, 5, 2, [], 84),
  (35, 37, .iload 4, 1, 0, 4, [], 0),
  (37, 38, .iconst 0, 0, 0, 0, [], 0),
  (38, 39, .iastore, 21, 0, 0, [], 0),
  (39, 42, .iinc 4 1, 3, 1, 4, [], 0),
  (42, 45, .goto (-22), 16, 20, 0, [], 0),
  (45, 46, .return_, 30, 0, 0, [], 0)]
/-- PuddingHobs$Rows.make(III)V -/
def hm_T63 : hm_X := (yX5_make, prog_7_method_8_code, 5, none, false, 4, [297, 57, 295, 296], hm_P63)
def hm_P64 : List hm_I := [
  (0, 1, .aload_n 0, 1, 1, 0, [], 0),
  (1, 4, .getfield 9, 18, 5, 0, [], 82),
  (4, 5, .iload_n 1, 1, 0, 1, [], 0),
  (5, 6, .iaload, 20, 0, 0, [], 0),
  (6, 7, .iload_n 3, 1, 0, 3, [], 0),
  (7, 10, .invokestatic 27, 27, 0, 69, [], 321),
  (10, 12, .istore 4, 2, 0, 4, [], 0),
  (12, 13, .aload_n 0, 1, 1, 0, [], 0),
  (13, 16, .getfield 16, 18, 5, 2, [], 84),
  (16, 17, .iload_n 1, 1, 0, 1, [], 0),
  (17, 20, .invokestatic 23, 27, 0, 68, [], 298),
  (20, 21, .iload_n 2, 1, 0, 2, [], 0),
  (21, 22, .iadd, 4, 0, 0, [], 0),
  (22, 24, .iload 4, 1, 0, 4, [], 0),
  (24, 25, .iastore, 21, 0, 0, [], 0),
  (25, 27, .iload 4, 1, 0, 4, [], 0),
  (27, 28, .ireturn, 29, 0, 0, [], 0)]
/-- PuddingHobs$Rows.put(III)I -/
def hm_T64 : hm_X := (yX5_put, prog_7_method_9_code, 5, (some .int), false, 4, [320, 57, 318, 319], hm_P64)
def hm_P65 : List hm_I := [
  (0, 1, .aload_n 0, 1, 1, 0, [], 0),
  (1, 4, .getfield 16, 18, 5, 2, [], 84),
  (4, 5, .iload_n 1, 1, 0, 1, [], 0),
  (5, 8, .invokestatic 23, 27, 0, 68, [], 298),
  (8, 9, .iload_n 2, 1, 0, 2, [], 0),
  (9, 10, .iadd, 4, 0, 0, [], 0),
  (10, 11, .iaload, 20, 0, 0, [], 0),
  (11, 12, .ireturn, 29, 0, 0, [], 0)]
/-- PuddingHobs$Rows.item(II)I -/
def hm_T65 : hm_X := (yX5_item, prog_7_method_10_code, 3, (some .int), false, 3, [687, 57, 685, 686], hm_P65)
def hm_P66 : List hm_I := [
  (0, 1, .aload_n 0, 1, 1, 0, [], 0),
  (1, 4, .getfield 16, 18, 5, 2, [], 84),
  (4, 5, .iload_n 1, 1, 0, 1, [], 0),
  (5, 8, .invokestatic 23, 27, 0, 68, [], 298),
  (8, 9, .iload_n 2, 1, 0, 2, [], 0),
  (9, 10, .iadd, 4, 0, 0, [], 0),
  (10, 11, .aload_n 0, 1, 1, 0, [], 0),
  (11, 14, .getfield 16, 18, 5, 2, [], 84),
  (14, 15, .iload_n 3, 1, 0, 3, [], 0),
  (15, 18, .invokestatic 23, 27, 0, 68, [], 298),
  (18, 20, .iload 4, 1, 0, 4, [], 0),
  (20, 21, .iadd, 4, 0, 0, [], 0),
  (21, 23, .iload 5, 1, 0, 5, [], 0),
  (23, 26, .invokestatic 31, 28, 0, 0, [], 336),
  (26, 27, .return_, 30, 0, 0, [], 0)]
/-- PuddingHobs$Rows.move(IIIII)V -/
def hm_T66 : hm_X := (yX5_move, prog_7_method_11_code, 6, none, false, 6, [335, 57, 333, 334], hm_P66)
def hm_P67 : List hm_I := [
  (0, 1, .aload_n 0, 1, 1, 0, [], 0),
  (1, 4, .getfield 9, 18, 5, 0, [], 82),
  (4, 5, .iload_n 1, 1, 0, 1, [], 0),
  (5, 6, .iconst (-1), 31, (-1), 0, [], 0),
  (6, 7, .iastore, 21, 0, 0, [], 0),
  (7, 8, .aload_n 0, 1, 1, 0, [], 0),
  (8, 11, .getfield 13, 18, 5, 1, [], 83),
  (11, 12, .iload_n 1, 1, 0, 1, [], 0),
  (12, 13, .iaload, 20, 0, 0, [], 0),
  (13, 14, .ireturn, 29, 0, 0, [], 0)]
/-- PuddingHobs$Rows.forget(I)I -/
def hm_T67 : hm_X := (yX5_forget, prog_7_method_12_code, 2, (some .int), false, 2, [346, 57, 344, 345], hm_P67)
def hm_P68 : List hm_I := [
  (0, 1, .iload_n 0, 1, 0, 0, [], 0),
  (1, 3, .bipush 40, 0, 0, 40, [], 0),
  (3, 4, .imul, 4, 0, 2, [], 0),
  (4, 5, .ireturn, 29, 0, 0, [], 0)]
/-- PuddingHobs$Rows.startOf(I)I -/
def hm_T68 : hm_X := (yX5_startOf, prog_7_method_13_code, 1, (some .int), true, 1, [300, 57, 299, 0], hm_P68)
def hm_P69 : List hm_I := [
  (0, 1, .iload_n 0, 1, 0, 0, [], 0),
  (1, 28, .lookupswitch 33 #[(0, 27), (1, 30)], 17, 34, 1, [(0, 28), (1, 31)], 0),
  (28, 29, .iload_n 1, 1, 0, 1, [], 0),
  (29, 30, .i2b, 7, 0, 1, [], 0),
  (30, 31, .ireturn, 29, 0, 0, [], 0),
  (31, 32, .iload_n 1, 1, 0, 1, [], 0),
  (32, 33, .i2s, 7, 0, 2, [], 0),
  (33, 34, .ireturn, 29, 0, 0, [], 0),
  (34, 35, .iload_n 1, 1, 0, 1, [], 0),
  (35, 36, .ireturn, 29, 0, 0, [], 0)]
/-- PuddingHobs$Rows.cutTo(II)I -/
def hm_T69 : hm_X := (yX5_cutTo, prog_7_method_14_code, 2, (some .int), true, 2, [323, 57, 322, 0], hm_P69)
def hm_P70 : List hm_I := [
  (0, 1, .aload_n 0, 1, 1, 0, [], 0),
  (1, 4, .getfield 13, 18, 6, 1, [], 100),
  (4, 5, .ireturn, 29, 0, 0, [], 0)]
/-- PuddingHobs$Tape.size()I -/
def hm_T70 : hm_X := (yX6_size, prog_8_method_2_code, 1, (some .int), false, 1, [358, 58, 356, 357], hm_P70)
def hm_P71 : List hm_I := [
  (0, 1, .aload_n 0, 1, 1, 0, [], 0),
  (1, 4, .getfield 17, 18, 6, 5, [], 104),
  (4, 5, .ireturn, 29, 0, 0, [], 0)]
/-- PuddingHobs$Tape.latestFault()I -/
def hm_T71 : hm_X := (yX6_latestFault, prog_8_method_3_code, 1, (some .int), false, 1, [433, 58, 431, 432], hm_P71)
def hm_P72 : List hm_I := [
  (0, 1, .aload_n 0, 1, 1, 0, [], 0),
  (1, 4, .getfield 20, 18, 6, 6, [], 105),
  (4, 5, .ireturn, 29, 0, 0, [], 0)]
/-- PuddingHobs$Tape.faultPlace()I -/
def hm_T72 : hm_X := (yX6_faultPlace, prog_8_method_4_code, 1, (some .int), false, 1, [416, 58, 414, 415], hm_P72)
def hm_P73 : List hm_I := [
  (0, 1, .aload_n 0, 1, 1, 0, [], 0),
  (1, 4, .getfield 13, 18, 6, 1, [], 100),
  (4, 6, .bipush 90, 0, 0, 90, [], 0),
  (6, 9, .if_icmp .lt 5, 15, 11, 2, [], 0),
  (9, 10, .iconst 0, 0, 0, 0, [], 0),
  (10, 11, .ireturn, 29, 0, 1, [], 0),
  (11, 12, .aload_n 0, 1, 1, 0, [], 0),
  (12, 15, .getfield 9, 18, 6, 0, [], 99),
  (15, 16, .aload_n 0, 1, 1, 0, [], 0),
  (16, 19, .getfield 13, 18, 6, 1, [], 100),
  (19, 20, .iload_n 1, 1, 0, 1, [], 0),
  (20, 21, .iastore, 21, 0, 0, [], 0),
  (21, 22, .aload_n 0, 1, 1, 0, [], 0),
  (22, 23, .dup, 24, 0, 0, [], 0),
  (23, 26, .getfield 13, 18, 6, 1, [], 100),
  (26, 27, .iconst 1, 0, 0, 1, [], 0),
  (27, 28, .iadd, 4, 0, 0, [], 0),
  (28, 31, .putfield 13, 19, 6, 1, [], 100),
  (31, 32, .iconst 1, 0, 0, 1, [], 0),
  (32, 33, .ireturn, 29, 0, 1, [], 0)]
/-- PuddingHobs$Tape.append(I)Z -/
def hm_T73 : hm_X := (yX6_append, prog_8_method_5_code, 2, (some .boolean), false, 2, [354, 58, 352, 353], hm_P73)
def hm_P74 : List hm_I := [
  (0, 1, .aload_n 0, 1, 1, 0, [], 0),
  (1, 2, .iconst 0, 0, 0, 0, [], 0),
  (2, 5, .putfield 23, 19, 6, 2, [], 101),
  (5, 6, .aload_n 1, 1, 1, 1, [], 0),
  (6, 9, .invokevirtual 26, 27, 0, 36, [], 368),
  (9, 10, .aload_n 0, 1, 1, 0, [], 0),
  (10, 11, .aload_n 1, 1, 1, 1, [], 0),
  (11, 14, .invokevirtual 31, 27, 0, 75, [], 372),
  (14, 17, .ifCond .eq 15, 14, 29, 0, [], 0),
  (17, 18, .aload_n 0, 1, 1, 0, [], 0),
  (18, 19, .aload_n 1, 1, 1, 1, [], 0),
  (19, 22, .invokevirtual 35, 27, 0, 76, [], 400),
  (22, 25, .ifCond .eq 7, 14, 29, 0, [], 0),
  (25, 26, .iconst 1, 0, 0, 1, [], 0),
  (26, 29, .goto 4, 16, 30, 0, [], 0),
  (29, 30, .iconst 0, 0, 0, 0, [], 0),
  (30, 31, .istore_n 2, 2, 0, 2, [], 0),
  (31, 32, .iconst 0, 0, 0, 0, [], 0),
  (32, 33, .istore_n 3, 2, 0, 3, [], 0),
  (33, 34, .iload_n 2, 1, 0, 2, [], 0),
  (34, 37, .ifCond .eq 32, 14, 66, 0, [], 0),
  (37, 38, .aload_n 0, 1, 1, 0, [], 0),
  (38, 41, .getfield 23, 18, 6, 2, [], 101),
  (41, 42, .aload_n 0, 1, 1, 0, [], 0),
  (42, 45, .getfield 13, 18, 6, 1, [], 100),
  (45, 48, .if_icmp .ge 21, 15, 66, 3, [], 0),
  (48, 49, .iload_n 3, 1, 0, 3, [], 0),
  (49, 51, .bipush 90, 0, 0, 90, [], 0),
  (51, 54, .if_icmp .ge 15, 15, 66, 3, [], 0),
  (54, 55, .aload_n 0, 1, 1, 0, [], 0),
  (55, 56, .aload_n 1, 1, 1, 1, [], 0),
  (56, 59, .invokevirtual 35, 27, 0, 76, [], 400),
  (59, 60, .istore_n 2, 2, 0, 2, [], 0),
  (60, 63, .iinc 3 1, 3, 1, 3, [], 0),
  (63, 66, .goto (-30), 16, 33, 0, [], 0),
  (66, 67, .aload_n 0, 1, 1, 0, [], 0),
  (67, 68, .iconst 0, 0, 0, 0, [], 0),
  (68, 71, .putfield 13, 19, 6, 1, [], 100),
  (71, 72, .iload_n 2, 1, 0, 2, [], 0),
  (72, 73, .ireturn, 29, 0, 1, [], 0)]
/-- PuddingHobs$Tape.readInto(LPuddingHobs$Hob;)Z -/
def hm_T74 : hm_X := (yX6_readInto, prog_8_method_6_code, 4, (some .boolean), false, 2, [367, 58, 365, 366], hm_P74)
def hm_P75 : List hm_I := [
  (0, 1, .aload_n 0, 1, 1, 0, [], 0),
  (1, 4, .invokevirtual 38, 27, 0, 80, [], 376),
  (4, 6, .bipush 107, 0, 0, 107, [], 0),
  (6, 9, .if_icmp .eq 9, 15, 15, 0, [], 0),
  (9, 10, .aload_n 0, 1, 1, 0, [], 0),
  (10, 11, .iconst 1, 0, 0, 1, [], 0),
  (11, 14, .invokevirtual 42, 27, 0, 83, [], 380),
  (14, 15, .ireturn, 29, 0, 1, [], 0),
  (15, 16, .aload_n 0, 1, 1, 0, [], 0),
  (16, 17, .dup, 24, 0, 0, [], 0),
  (17, 20, .getfield 23, 18, 6, 2, [], 101),
  (20, 21, .iconst 1, 0, 0, 1, [], 0),
  (21, 22, .iadd, 4, 0, 0, [], 0),
  (22, 25, .putfield 23, 19, 6, 2, [], 101),
  (25, 26, .aload_n 0, 1, 1, 0, [], 0),
  (26, 28, .bipush 9, 0, 0, 9, [], 0),
  (28, 29, .iconst 5, 0, 0, 5, [], 0),
  (29, 31, .bipush 60, 0, 0, 60, [], 0),
  (31, 34, .invokevirtual 46, 27, 0, 77, [], 384),
  (34, 37, .ifCond .ne 5, 14, 39, 1, [], 0),
  (37, 38, .iconst 0, 0, 0, 0, [], 0),
  (38, 39, .ireturn, 29, 0, 1, [], 0),
  (39, 40, .aload_n 1, 1, 1, 1, [], 0),
  (40, 41, .aload_n 0, 1, 1, 0, [], 0),
  (41, 44, .getfield 50, 18, 6, 4, [], 103),
  (44, 47, .putfield 53, 19, 3, 5, [], 146),
  (47, 48, .aload_n 1, 1, 1, 1, [], 0),
  (48, 49, .aload_n 0, 1, 1, 0, [], 0),
  (49, 52, .getfield 56, 18, 6, 3, [], 102),
  (52, 55, .putfield 59, 19, 3, 6, [], 150),
  (55, 56, .iconst 1, 0, 0, 1, [], 0),
  (56, 57, .ireturn, 29, 0, 1, [], 0)]
/-- PuddingHobs$Tape.readLaw(LPuddingHobs$Hob;)Z -/
def hm_T75 : hm_X := (yX6_readLaw, prog_8_method_7_code, 2, (some .boolean), false, 2, [375, 58, 374, 2], hm_P75)
def hm_P76 : List hm_I := [
  (0, 1, .aload_n 0, 1, 1, 0, [], 0),
  (1, 4, .invokevirtual 62, 27, 0, 82, [], 404),
  (4, 5, .istore_n 2, 2, 0, 2, [], 0),
  (5, 6, .iload_n 2, 1, 0, 2, [], 0),
  (6, 9, .ifCond .ne 9, 14, 15, 1, [], 0),
  (9, 10, .aload_n 0, 1, 1, 0, [], 0),
  (10, 11, .iconst 1, 0, 0, 1, [], 0),
  (11, 14, .invokevirtual 42, 27, 0, 83, [], 380),
  (14, 15, .ireturn, 29, 0, 1, [], 0),
  (15, 16, .aload_n 1, 1, 1, 1, [], 0),
  (16, 19, .getfield 65, 18, 3, 4, [], 144),
  (19, 21, .bipush 7, 0, 0, 7, [], 0),
  (21, 24, .if_icmp .lt 9, 15, 30, 2, [], 0),
  (24, 25, .aload_n 0, 1, 1, 0, [], 0),
  (25, 26, .iconst 3, 0, 0, 3, [], 0),
  (26, 29, .invokevirtual 42, 27, 0, 83, [], 380),
  (29, 30, .ireturn, 29, 0, 1, [], 0),
  (30, 31, .aload_n 0, 1, 1, 0, [], 0),
  (31, 32, .dup, 24, 0, 0, [], 0),
  (32, 35, .getfield 23, 18, 6, 2, [], 101),
  (35, 36, .iconst 1, 0, 0, 1, [], 0),
  (36, 37, .iadd, 4, 0, 0, [], 0),
  (37, 40, .putfield 23, 19, 6, 2, [], 101),
  (40, 41, .aload_n 0, 1, 1, 0, [], 0),
  (41, 43, .bipush 20, 0, 0, 20, [], 0),
  (43, 44, .iconst 0, 0, 0, 0, [], 0),
  (44, 46, .bipush 30, 0, 0, 30, [], 0),
  (46, 49, .invokevirtual 46, 27, 0, 77, [], 384),
  (49, 52, .ifCond .ne 5, 14, 54, 1, [], 0),
  (52, 53, .iconst 0, 0, 0, 0, [], 0),
  (53, 54, .ireturn, 29, 0, 1, [], 0),
  (54, 55, .aload_n 1, 1, 1, 1, [], 0),
  (55, 56, .iload_n 2, 1, 0, 2, [], 0),
  (56, 57, .aload_n 0, 1, 1, 0, [], 0),
  (57, 60, .getfield 50, 18, 6, 4, [], 103),
  (60, 61, .aload_n 0, 1, 1, 0, [], 0),
  (61, 64, .getfield 56, 18, 6, 3, [], 102),
  (64, 67, .invokevirtual 68, 27, 0, 37, [], 408),
  (67, 68, .iconst 1, 0, 0, 1, [], 0),
  (68, 69, .ireturn, 29, 0, 1, [], 0)]
/-- PuddingHobs$Tape.readBasin(LPuddingHobs$Hob;)Z -/
def hm_T76 : hm_X := (yX6_readBasin, prog_8_method_8_code, 3, (some .boolean), false, 2, [403, 58, 402, 9], hm_P76)
def hm_P77 : List hm_I := [
  (0, 1, .aload_n 0, 1, 1, 0, [], 0),
  (1, 2, .iconst 0, 0, 0, 0, [], 0),
  (2, 3, .iload_n 1, 1, 0, 1, [], 0),
  (3, 6, .invokevirtual 72, 27, 0, 78, [], 388),
  (6, 9, .ifCond .ne 5, 14, 11, 1, [], 0),
  (9, 10, .iconst 0, 0, 0, 0, [], 0),
  (10, 11, .ireturn, 29, 0, 1, [], 0),
  (11, 12, .aload_n 0, 1, 1, 0, [], 0),
  (12, 13, .aload_n 0, 1, 1, 0, [], 0),
  (13, 16, .getfield 56, 18, 6, 3, [], 102),
  (16, 19, .putfield 50, 19, 6, 4, [], 103),
  (19, 20, .aload_n 0, 1, 1, 0, [], 0),
  (20, 22, .bipush 44, 0, 0, 44, [], 0),
  (22, 25, .invokevirtual 76, 27, 0, 79, [], 396),
  (25, 28, .ifCond .eq 25, 14, 50, 0, [], 0),
  (28, 29, .aload_n 0, 1, 1, 0, [], 0),
  (29, 30, .iload_n 2, 1, 0, 2, [], 0),
  (30, 31, .iload_n 3, 1, 0, 3, [], 0),
  (31, 34, .invokevirtual 72, 27, 0, 78, [], 388),
  (34, 37, .ifCond .eq 16, 14, 50, 0, [], 0),
  (37, 38, .aload_n 0, 1, 1, 0, [], 0),
  (38, 40, .bipush 59, 0, 0, 59, [], 0),
  (40, 43, .invokevirtual 76, 27, 0, 79, [], 396),
  (43, 46, .ifCond .eq 7, 14, 50, 0, [], 0),
  (46, 47, .iconst 1, 0, 0, 1, [], 0),
  (47, 50, .goto 4, 16, 51, 0, [], 0),
  (50, 51, .iconst 0, 0, 0, 0, [], 0),
  (51, 52, .ireturn, 29, 0, 1, [], 0)]
/-- PuddingHobs$Tape.readPair(III)Z -/
def hm_T77 : hm_X := (yX6_readPair, prog_8_method_9_code, 4, (some .boolean), false, 4, [387, 58, 386, 5], hm_P77)
def hm_P78 : List hm_I := [
  (0, 1, .aload_n 0, 1, 1, 0, [], 0),
  (1, 4, .invokevirtual 79, 27, 0, 81, [], 392),
  (4, 5, .istore_n 3, 2, 0, 3, [], 0),
  (5, 6, .iload_n 3, 1, 0, 3, [], 0),
  (6, 7, .iconst 1, 0, 0, 1, [], 0),
  (7, 10, .if_icmp .lt 8, 15, 15, 2, [], 0),
  (10, 11, .iload_n 3, 1, 0, 3, [], 0),
  (11, 12, .iconst 2, 0, 0, 2, [], 0),
  (12, 15, .if_icmp .le 9, 15, 21, 5, [], 0),
  (15, 16, .aload_n 0, 1, 1, 0, [], 0),
  (16, 17, .iconst 1, 0, 0, 1, [], 0),
  (17, 20, .invokevirtual 42, 27, 0, 83, [], 380),
  (20, 21, .ireturn, 29, 0, 1, [], 0),
  (21, 22, .aload_n 0, 1, 1, 0, [], 0),
  (22, 23, .iconst 0, 0, 0, 0, [], 0),
  (23, 26, .putfield 56, 19, 6, 3, [], 102),
  (26, 27, .aload_n 0, 1, 1, 0, [], 0),
  (27, 30, .getfield 23, 18, 6, 2, [], 101),
  (30, 32, .istore 4, 2, 0, 4, [], 0),
  (32, 34, .iload 4, 1, 0, 4, [], 0),
  (34, 35, .aload_n 0, 1, 1, 0, [], 0),
  (35, 38, .getfield 23, 18, 6, 2, [], 101),
  (38, 39, .iload_n 3, 1, 0, 3, [], 0),
  (39, 40, .iadd, 4, 0, 0, [], 0),
  (40, 43, .if_icmp .ge 31, 15, 71, 3, [], 0),
  (43, 44, .aload_n 0, 1, 1, 0, [], 0),
  (44, 46, .bipush 10, 0, 0, 10, [], 0),
  (46, 47, .aload_n 0, 1, 1, 0, [], 0),
  (47, 50, .getfield 56, 18, 6, 3, [], 102),
  (50, 51, .imul, 4, 0, 2, [], 0),
  (51, 52, .aload_n 0, 1, 1, 0, [], 0),
  (52, 55, .getfield 9, 18, 6, 0, [], 99),
  (55, 57, .iload 4, 1, 0, 4, [], 0),
  (57, 58, .iaload, 20, 0, 0, [], 0),
  (58, 59, .iadd, 4, 0, 0, [], 0),
  (59, 61, .bipush 48, 0, 0, 48, [], 0),
  (61, 62, .isub, 4, 0, 1, [], 0),
  (62, 65, .putfield 56, 19, 6, 3, [], 102),
  (65, 68, .iinc 4 1, 3, 1, 4, [], 0),
  (68, 71, .goto (-36), 16, 32, 0, [], 0),
  (71, 72, .aload_n 0, 1, 1, 0, [], 0),
  (72, 75, .getfield 56, 18, 6, 3, [], 102),
  (75, 76, .iload_n 1, 1, 0, 1, [], 0),
  (76, 79, .if_icmp .lt 11, 15, 87, 2, [], 0),
  (79, 80, .aload_n 0, 1, 1, 0, [], 0),
  (80, 83, .getfield 56, 18, 6, 3, [], 102),
  (83, 84, .iload_n 2, 1, 0, 2, [], 0),
  (84, 87, .if_icmp .le 9, 15, 93, 5, [], 0),
  (87, 88, .aload_n 0, 1, 1, 0, [], 0),
  (88, 89, .iconst 2, 0, 0, 2, [], 0),
  (89, 92, .invokevirtual 42, 27, 0, 83, [], 380),
  (92, 93, .ireturn, 29, 0, 1, [], 0),
  (93, 94, .aload_n 0, 1, 1, 0, [], 0),
  (94, 95, .dup, 24, 0, 0, [], 0),
  (95, 98, .getfield 23, 18, 6, 2, [], 101),
  (98, 99, .iload_n 3, 1, 0, 3, [], 0),
  (99, 100, .iadd, 4, 0, 0, [], 0),
  (100, 103, .putfield 23, 19, 6, 2, [], 101),
  (103, 104, .iconst 1, 0, 0, 1, [], 0),
  (104, 105, .ireturn, 29, 0, 1, [], 0)]
/-- PuddingHobs$Tape.readNumber(II)Z -/
def hm_T78 : hm_X := (yX6_readNumber, prog_8_method_10_code, 5, (some .boolean), false, 3, [391, 58, 390, 6], hm_P78)
def hm_P79 : List hm_I := [
  (0, 1, .aload_n 0, 1, 1, 0, [], 0),
  (1, 4, .invokevirtual 38, 27, 0, 80, [], 376),
  (4, 5, .iload_n 1, 1, 0, 1, [], 0),
  (5, 8, .if_icmp .eq 9, 15, 14, 0, [], 0),
  (8, 9, .aload_n 0, 1, 1, 0, [], 0),
  (9, 10, .iconst 1, 0, 0, 1, [], 0),
  (10, 13, .invokevirtual 42, 27, 0, 83, [], 380),
  (13, 14, .ireturn, 29, 0, 1, [], 0),
  (14, 15, .aload_n 0, 1, 1, 0, [], 0),
  (15, 16, .dup, 24, 0, 0, [], 0),
  (16, 19, .getfield 23, 18, 6, 2, [], 101),
  (19, 20, .iconst 1, 0, 0, 1, [], 0),
  (20, 21, .iadd, 4, 0, 0, [], 0),
  (21, 24, .putfield 23, 19, 6, 2, [], 101),
  (24, 25, .iconst 1, 0, 0, 1, [], 0),
  (25, 26, .ireturn, 29, 0, 1, [], 0)]
/-- PuddingHobs$Tape.readSign(I)Z -/
def hm_T79 : hm_X := (yX6_readSign, prog_8_method_11_code, 2, (some .boolean), false, 2, [399, 58, 398, 8], hm_P79)
def hm_P80 : List hm_I := [
  (0, 1, .aload_n 0, 1, 1, 0, [], 0),
  (1, 4, .getfield 23, 18, 6, 2, [], 101),
  (4, 5, .aload_n 0, 1, 1, 0, [], 0),
  (5, 8, .getfield 13, 18, 6, 1, [], 100),
  (8, 11, .if_icmp .ge 15, 15, 23, 3, [], 0),
  (11, 12, .aload_n 0, 1, 1, 0, [], 0),
  (12, 15, .getfield 9, 18, 6, 0, [], 99),
  (15, 16, .aload_n 0, 1, 1, 0, [], 0),
  (16, 19, .getfield 23, 18, 6, 2, [], 101),
  (19, 20, .iaload, 20, 0, 0, [], 0),
  (20, 23, .goto 4, 16, 24, 0, [], 0),
  (23, 24, .iconst (-1), 31, (-1), 0, [], 0),
  (24, 25, .ireturn, 29, 0, 0, [], 0)]
/-- PuddingHobs$Tape.byteHere()I -/
def hm_T80 : hm_X := (yX6_byteHere, prog_8_method_12_code, 1, (some .int), false, 1, [379, 58, 378, 3], hm_P80)
def hm_P81 : List hm_I := [
  (0, 1, .aload_n 0, 1, 1, 0, [], 0),
  (1, 4, .getfield 23, 18, 6, 2, [], 101),
  (4, 5, .istore_n 1, 2, 0, 1, [], 0),
  (5, 6, .iload_n 1, 1, 0, 1, [], 0),
  (6, 7, .aload_n 0, 1, 1, 0, [], 0),
  (7, 10, .getfield 13, 18, 6, 1, [], 100),
  (10, 13, .if_icmp .ge 31, 15, 41, 3, [], 0),
  (13, 14, .aload_n 0, 1, 1, 0, [], 0),
  (14, 17, .getfield 9, 18, 6, 0, [], 99),
  (17, 18, .iload_n 1, 1, 0, 1, [], 0),
  (18, 19, .iaload, 20, 0, 0, [], 0),
  (19, 21, .bipush 48, 0, 0, 48, [], 0),
  (21, 24, .if_icmp .lt 20, 15, 41, 2, [], 0),
  (24, 25, .aload_n 0, 1, 1, 0, [], 0),
  (25, 28, .getfield 9, 18, 6, 0, [], 99),
  (28, 29, .iload_n 1, 1, 0, 1, [], 0),
  (29, 30, .iaload, 20, 0, 0, [], 0),
  (30, 32, .bipush 57, 0, 0, 57, [], 0),
  (32, 35, .if_icmp .gt 9, 15, 41, 4, [], 0),
  (35, 38, .iinc 1 1, 3, 1, 1, [], 0),
  (38, 41, .goto (-33), 16, 5, 0, [], 0),
  (41, 42, .iload_n 1, 1, 0, 1, [], 0),
  (42, 43, .aload_n 0, 1, 1, 0, [], 0),
  (43, 46, .getfield 23, 18, 6, 2, [], 101),
  (46, 47, .isub, 4, 0, 1, [], 0),
  (47, 48, .ireturn, 29, 0, 0, [], 0)]
/-- PuddingHobs$Tape.figuresHere()I -/
def hm_T81 : hm_X := (yX6_figuresHere, prog_8_method_13_code, 2, (some .int), false, 1, [395, 58, 394, 7], hm_P81)
def hm_P82 : List hm_I := [
  (0, 1, .aload_n 0, 1, 1, 0, [], 0),
  (1, 4, .invokevirtual 38, 27, 0, 80, [], 376),
  (4, 56, .lookupswitch 62 #[(98, 58), (108, 56), (112, 52), (114, 60), (115, 54)], 17, 66, 1, [(98, 62), (108, 60), (112, 56), (114, 64), (115, 58)], 0),
  (56, 57, .iconst 1, 0, 0, 1, [], 0),
  (57, 58, .ireturn, 29, 0, 0, [], 0),
  (58, 59, .iconst 2, 0, 0, 2, [], 0),
  (59, 60, .ireturn, 29, 0, 0, [], 0),
  (60, 61, .iconst 3, 0, 0, 3, [], 0),
  (61, 62, .ireturn, 29, 0, 0, [], 0),
  (62, 63, .iconst 4, 0, 0, 4, [], 0),
  (63, 64, .ireturn, 29, 0, 0, [], 0),
  (64, 65, .iconst 5, 0, 0, 5, [], 0),
  (65, 66, .ireturn, 29, 0, 0, [], 0),
  (66, 67, .iconst 0, 0, 0, 0, [], 0),
  (67, 68, .ireturn, 29, 0, 0, [], 0)]
/-- PuddingHobs$Tape.sortHere()I -/
def hm_T82 : hm_X := (yX6_sortHere, prog_8_method_14_code, 1, (some .int), false, 1, [407, 58, 406, 10], hm_P82)
def hm_P83 : List hm_I := [
  (0, 1, .aload_n 0, 1, 1, 0, [], 0),
  (1, 2, .iload_n 1, 1, 0, 1, [], 0),
  (2, 5, .putfield 17, 19, 6, 5, [], 104),
  (5, 6, .aload_n 0, 1, 1, 0, [], 0),
  (6, 7, .aload_n 0, 1, 1, 0, [], 0),
  (7, 10, .getfield 23, 18, 6, 2, [], 101),
  (10, 13, .putfield 20, 19, 6, 6, [], 105),
  (13, 14, .iconst 0, 0, 0, 0, [], 0),
  (14, 15, .ireturn, 29, 0, 1, [], 0)]
/-- PuddingHobs$Tape.faultHere(I)Z -/
def hm_T83 : hm_X := (yX6_faultHere, prog_8_method_15_code, 2, (some .boolean), false, 2, [383, 58, 382, 4], hm_P83)
def hm_P84 : List hm_I := [
  (0, 1, .iload_n 1, 1, 0, 1, [], 0),
  (1, 4, .invokestatic 63, 27, 0, 57, [], 282),
  (4, 7, .ifCond .eq 16, 14, 20, 0, [], 0),
  (7, 8, .iload_n 2, 1, 0, 2, [], 0),
  (8, 11, .invokestatic 67, 27, 0, 58, [], 285),
  (11, 14, .ifCond .eq 9, 14, 20, 0, [], 0),
  (14, 15, .iload_n 3, 1, 0, 3, [], 0),
  (15, 17, .bipush 40, 0, 0, 40, [], 0),
  (17, 20, .if_icmp .le 6, 15, 23, 5, [], 0),
  (20, 22, .ldc 70, 31, (-1000001), 0, [], 288),
  (22, 23, .ireturn, 29, 0, 0, [], 0),
  (23, 24, .iload_n 3, 1, 0, 3, [], 0),
  (24, 27, .ifCond .ge 9, 14, 33, 3, [], 0),
  (27, 28, .aload_n 0, 1, 1, 0, [], 0),
  (28, 29, .iconst 4, 0, 0, 4, [], 0),
  (29, 32, .invokevirtual 71, 27, 0, 120, [], 289),
  (32, 33, .ireturn, 29, 0, 0, [], 0),
  (33, 34, .aload_n 0, 1, 1, 0, [], 0),
  (34, 37, .getfield 10, 18, 7, 0, [], 250),
  (37, 38, .iload_n 1, 1, 0, 1, [], 0),
  (38, 39, .iload_n 2, 1, 0, 2, [], 0),
  (39, 40, .iload_n 3, 1, 0, 3, [], 0),
  (40, 43, .invokevirtual 75, 27, 0, 63, [], 294),
  (43, 44, .aload_n 0, 1, 1, 0, [], 0),
  (44, 45, .iload_n 3, 1, 0, 3, [], 0),
  (45, 48, .invokevirtual 79, 27, 0, 121, [], 301),
  (48, 49, .ireturn, 29, 0, 0, [], 0)]
/-- PuddingHobs.row(III)I -/
def hm_T84 : hm_X := (yX7_row, prog_1_method_2_code, 4, (some .int), false, 4, [281, 56, 279, 280], hm_P84)
def hm_P85 : List hm_I := [
  (0, 1, .iload_n 1, 1, 0, 1, [], 0),
  (1, 4, .invokestatic 63, 27, 0, 57, [], 282),
  (4, 7, .ifCond .ne 6, 14, 10, 1, [], 0),
  (7, 9, .ldc 70, 31, (-1000001), 0, [], 288),
  (9, 10, .ireturn, 29, 0, 0, [], 0),
  (10, 11, .aload_n 0, 1, 1, 0, [], 0),
  (11, 14, .getfield 10, 18, 7, 0, [], 250),
  (14, 15, .iload_n 1, 1, 0, 1, [], 0),
  (15, 18, .invokevirtual 82, 27, 0, 59, [], 309),
  (18, 21, .ifCond .eq 9, 14, 27, 0, [], 0),
  (21, 22, .aload_n 0, 1, 1, 0, [], 0),
  (22, 23, .iconst 1, 0, 0, 1, [], 0),
  (23, 26, .invokevirtual 71, 27, 0, 120, [], 289),
  (26, 27, .ireturn, 29, 0, 0, [], 0),
  (27, 28, .aload_n 0, 1, 1, 0, [], 0),
  (28, 31, .getfield 10, 18, 7, 0, [], 250),
  (31, 32, .iload_n 1, 1, 0, 1, [], 0),
  (32, 33, .iload_n 2, 1, 0, 2, [], 0),
  (33, 34, .iconst 1, 0, 0, 1, [], 0),
  (34, 37, .invokevirtual 85, 27, 0, 61, [], 313),
  (37, 40, .ifCond .ne 9, 14, 46, 1, [], 0),
  (40, 41, .aload_n 0, 1, 1, 0, [], 0),
  (41, 42, .iconst 2, 0, 0, 2, [], 0),
  (42, 45, .invokevirtual 71, 27, 0, 120, [], 289),
  (45, 46, .ireturn, 29, 0, 0, [], 0),
  (46, 47, .aload_n 0, 1, 1, 0, [], 0),
  (47, 48, .aload_n 0, 1, 1, 0, [], 0),
  (48, 51, .getfield 10, 18, 7, 0, [], 250),
  (51, 52, .iload_n 1, 1, 0, 1, [], 0),
  (52, 53, .iload_n 2, 1, 0, 2, [], 0),
  (53, 54, .iload_n 3, 1, 0, 3, [], 0),
  (54, 57, .invokevirtual 89, 27, 0, 64, [], 317),
  (57, 60, .invokevirtual 79, 27, 0, 121, [], 301),
  (60, 61, .ireturn, 29, 0, 0, [], 0)]
/-- PuddingHobs.set(III)I -/
def hm_T85 : hm_X := (yX7_set, prog_1_method_3_code, 4, (some .int), false, 4, [308, 56, 306, 307], hm_P85)
def hm_P86 : List hm_I := [
  (0, 1, .iload_n 1, 1, 0, 1, [], 0),
  (1, 4, .invokestatic 63, 27, 0, 57, [], 282),
  (4, 7, .ifCond .eq 10, 14, 14, 0, [], 0),
  (7, 8, .iload_n 3, 1, 0, 3, [], 0),
  (8, 11, .invokestatic 63, 27, 0, 57, [], 282),
  (11, 14, .ifCond .ne 6, 14, 17, 1, [], 0),
  (14, 16, .ldc 70, 31, (-1000001), 0, [], 288),
  (16, 17, .ireturn, 29, 0, 0, [], 0),
  (17, 18, .aload_n 0, 1, 1, 0, [], 0),
  (18, 21, .getfield 10, 18, 7, 0, [], 250),
  (21, 22, .iload_n 1, 1, 0, 1, [], 0),
  (22, 25, .invokevirtual 82, 27, 0, 59, [], 309),
  (25, 28, .ifCond .ne 14, 14, 39, 1, [], 0),
  (28, 29, .aload_n 0, 1, 1, 0, [], 0),
  (29, 32, .getfield 10, 18, 7, 0, [], 250),
  (32, 33, .iload_n 3, 1, 0, 3, [], 0),
  (33, 36, .invokevirtual 82, 27, 0, 59, [], 309),
  (36, 39, .ifCond .eq 9, 14, 45, 0, [], 0),
  (39, 40, .aload_n 0, 1, 1, 0, [], 0),
  (40, 41, .iconst 1, 0, 0, 1, [], 0),
  (41, 44, .invokevirtual 71, 27, 0, 120, [], 289),
  (44, 45, .ireturn, 29, 0, 0, [], 0),
  (45, 46, .aload_n 0, 1, 1, 0, [], 0),
  (46, 49, .getfield 10, 18, 7, 0, [], 250),
  (49, 50, .iload_n 1, 1, 0, 1, [], 0),
  (50, 51, .iload_n 3, 1, 0, 3, [], 0),
  (51, 54, .invokevirtual 93, 27, 0, 60, [], 328),
  (54, 57, .ifCond .ne 9, 14, 63, 1, [], 0),
  (57, 58, .aload_n 0, 1, 1, 0, [], 0),
  (58, 59, .iconst 5, 0, 0, 5, [], 0),
  (59, 62, .invokevirtual 71, 27, 0, 120, [], 289),
  (62, 63, .ireturn, 29, 0, 0, [], 0),
  (63, 64, .aload_n 0, 1, 1, 0, [], 0),
  (64, 67, .getfield 10, 18, 7, 0, [], 250),
  (67, 68, .iload_n 1, 1, 0, 1, [], 0),
  (68, 69, .iload_n 2, 1, 0, 2, [], 0),
  (69, 71, .iload 5, 1, 0, 5, [], 0),
  (71, 74, .invokevirtual 85, 27, 0, 61, [], 313),
  (74, 77, .ifCond .eq 18, 14, 92, 0, [], 0),
  (77, 78, .aload_n 0, 1, 1, 0, [], 0),
  (78, 81, .getfield 10, 18, 7, 0, [], 250),
  (81, 82, .iload_n 3, 1, 0, 3, [], 0),
  (82, 84, .iload 4, 1, 0, 4, [], 0),
  (84, 86, .iload 5, 1, 0, 5, [], 0),
  (86, 89, .invokevirtual 85, 27, 0, 61, [], 313),
  (89, 92, .ifCond .ne 9, 14, 98, 1, [], 0),
  (92, 93, .aload_n 0, 1, 1, 0, [], 0),
  (93, 94, .iconst 2, 0, 0, 2, [], 0),
  (94, 97, .invokevirtual 71, 27, 0, 120, [], 289),
  (97, 98, .ireturn, 29, 0, 0, [], 0),
  (98, 99, .aload_n 0, 1, 1, 0, [], 0),
  (99, 102, .getfield 10, 18, 7, 0, [], 250),
  (102, 103, .iload_n 1, 1, 0, 1, [], 0),
  (103, 104, .iload_n 2, 1, 0, 2, [], 0),
  (104, 105, .iload_n 3, 1, 0, 3, [], 0),
  (105, 107, .iload 4, 1, 0, 4, [], 0),
  (107, 109, .iload 5, 1, 0, 5, [], 0),
  (109, 112, .invokevirtual 97, 27, 0, 66, [], 332),
  (112, 113, .aload_n 0, 1, 1, 0, [], 0),
  (113, 115, .iload 5, 1, 0, 5, [], 0),
  (115, 118, .invokevirtual 79, 27, 0, 121, [], 301),
  (118, 119, .ireturn, 29, 0, 0, [], 0)]
/-- PuddingHobs.copy(IIIII)I -/
def hm_T86 : hm_X := (yX7_copy, prog_1_method_4_code, 6, (some .int), false, 6, [327, 56, 325, 326], hm_P86)
def hm_P87 : List hm_I := [
  (0, 1, .iload_n 1, 1, 0, 1, [], 0),
  (1, 4, .invokestatic 63, 27, 0, 57, [], 282),
  (4, 7, .ifCond .ne 6, 14, 10, 1, [], 0),
  (7, 9, .ldc 70, 31, (-1000001), 0, [], 288),
  (9, 10, .ireturn, 29, 0, 0, [], 0),
  (10, 11, .aload_n 0, 1, 1, 0, [], 0),
  (11, 14, .getfield 10, 18, 7, 0, [], 250),
  (14, 15, .iload_n 1, 1, 0, 1, [], 0),
  (15, 18, .invokevirtual 82, 27, 0, 59, [], 309),
  (18, 21, .ifCond .eq 9, 14, 27, 0, [], 0),
  (21, 22, .aload_n 0, 1, 1, 0, [], 0),
  (22, 23, .iconst 1, 0, 0, 1, [], 0),
  (23, 26, .invokevirtual 71, 27, 0, 120, [], 289),
  (26, 27, .ireturn, 29, 0, 0, [], 0),
  (27, 28, .aload_n 0, 1, 1, 0, [], 0),
  (28, 29, .aload_n 0, 1, 1, 0, [], 0),
  (29, 32, .getfield 10, 18, 7, 0, [], 250),
  (32, 33, .iload_n 1, 1, 0, 1, [], 0),
  (33, 36, .invokevirtual 101, 27, 0, 67, [], 343),
  (36, 39, .invokevirtual 79, 27, 0, 121, [], 301),
  (39, 40, .ireturn, 29, 0, 0, [], 0)]
/-- PuddingHobs.drop(I)I -/
def hm_T87 : hm_X := (yX7_drop, prog_1_method_5_code, 2, (some .int), false, 2, [342, 56, 340, 341], hm_P87)
def hm_P88 : List hm_I := [
  (0, 1, .iload_n 1, 1, 0, 1, [], 0),
  (1, 4, .ifCond .lt 10, 14, 11, 2, [], 0),
  (4, 5, .iload_n 1, 1, 0, 1, [], 0),
  (5, 8, .sipush 255, 0, 0, 255, [], 0),
  (8, 11, .if_icmp .le 6, 15, 14, 5, [], 0),
  (11, 13, .ldc 70, 31, (-1000001), 0, [], 288),
  (13, 14, .ireturn, 29, 0, 0, [], 0),
  (14, 15, .aload_n 0, 1, 1, 0, [], 0),
  (15, 18, .getfield 19, 18, 7, 1, [], 251),
  (18, 19, .iload_n 1, 1, 0, 1, [], 0),
  (19, 22, .invokevirtual 104, 27, 0, 73, [], 351),
  (22, 25, .ifCond .eq 13, 14, 35, 0, [], 0),
  (25, 26, .aload_n 0, 1, 1, 0, [], 0),
  (26, 29, .getfield 19, 18, 7, 1, [], 251),
  (29, 32, .invokevirtual 107, 27, 0, 70, [], 355),
  (32, 35, .goto 5, 16, 37, 0, [], 0),
  (35, 37, .ldc 111, 31, (-1000003), 0, [], 359),
  (37, 38, .ireturn, 29, 0, 0, [], 0)]
/-- PuddingHobs.feed(I)I -/
def hm_T88 : hm_X := (yX7_feed, prog_1_method_6_code, 2, (some .int), false, 2, [350, 56, 348, 349], hm_P88)
def hm_P89 : List hm_I := [
  (0, 1, .aload_n 0, 1, 1, 0, [], 0),
  (1, 4, .getfield 19, 18, 7, 1, [], 251),
  (4, 5, .aload_n 0, 1, 1, 0, [], 0),
  (5, 8, .getfield 30, 18, 7, 3, [], 253),
  (8, 11, .invokevirtual 112, 27, 0, 74, [], 364),
  (11, 14, .ifCond .ne 14, 14, 25, 1, [], 0),
  (14, 16, .ldc 116, 31, (-1000100), 0, [], 412),
  (16, 17, .aload_n 0, 1, 1, 0, [], 0),
  (17, 20, .getfield 19, 18, 7, 1, [], 251),
  (20, 23, .invokevirtual 117, 27, 0, 72, [], 413),
  (23, 24, .isub, 4, 0, 1, [], 0),
  (24, 25, .ireturn, 29, 0, 0, [], 0),
  (25, 26, .aload_n 0, 1, 1, 0, [], 0),
  (26, 29, .getfield 26, 18, 7, 2, [], 252),
  (29, 30, .aload_n 0, 1, 1, 0, [], 0),
  (30, 33, .getfield 30, 18, 7, 3, [], 253),
  (33, 36, .invokevirtual 120, 27, 0, 38, [], 417),
  (36, 37, .aload_n 0, 1, 1, 0, [], 0),
  (37, 40, .getfield 36, 18, 7, 4, [], 254),
  (40, 43, .invokevirtual 123, 27, 0, 2, [], 422),
  (43, 44, .aload_n 0, 1, 1, 0, [], 0),
  (44, 47, .getfield 26, 18, 7, 2, [], 252),
  (47, 50, .getfield 126, 18, 3, 4, [], 143),
  (50, 51, .ireturn, 29, 0, 0, [], 0)]
/-- PuddingHobs.hob()I -/
def hm_T89 : hm_X := (yX7_hob, prog_1_method_7_code, 1, (some .int), false, 1, [363, 56, 361, 362], hm_P89)
def hm_P90 : List hm_I := [
  (0, 1, .aload_n 0, 1, 1, 0, [], 0),
  (1, 4, .getfield 19, 18, 7, 1, [], 251),
  (4, 7, .invokevirtual 129, 27, 0, 71, [], 430),
  (7, 8, .ireturn, 29, 0, 0, [], 0)]
/-- PuddingHobs.fault()I -/
def hm_T90 : hm_X := (yX7_fault, prog_1_method_8_code, 1, (some .int), false, 1, [429, 56, 427, 428], hm_P90)
def hm_P91 : List hm_I := [
  (0, 1, .aload_n 0, 1, 1, 0, [], 0),
  (1, 4, .getfield 26, 18, 7, 2, [], 252),
  (4, 7, .invokevirtual 132, 27, 0, 31, [], 438),
  (7, 10, .ifCond .eq 6, 14, 13, 0, [], 0),
  (10, 12, .ldc 136, 31, (-1000002), 0, [], 442),
  (12, 13, .ireturn, 29, 0, 0, [], 0),
  (13, 14, .iload_n 1, 1, 0, 1, [], 0),
  (14, 15, .iconst 1, 0, 0, 1, [], 0),
  (15, 18, .if_icmp .lt 9, 15, 24, 2, [], 0),
  (18, 19, .iload_n 1, 1, 0, 1, [], 0),
  (19, 21, .bipush 24, 0, 0, 24, [], 0),
  (21, 24, .if_icmp .le 6, 15, 27, 5, [], 0),
  (24, 26, .ldc 70, 31, (-1000001), 0, [], 288),
  (26, 27, .ireturn, 29, 0, 0, [], 0),
  (27, 28, .aload_n 0, 1, 1, 0, [], 0),
  (28, 31, .getfield 26, 18, 7, 2, [], 252),
  (31, 34, .getfield 137, 18, 3, 7, [], 154),
  (34, 37, .sipush 9999, 0, 0, 9999, [], 0),
  (37, 38, .iload_n 1, 1, 0, 1, [], 0),
  (38, 39, .isub, 4, 0, 1, [], 0),
  (39, 42, .if_icmp .le 6, 15, 45, 5, [], 0),
  (42, 44, .ldc 111, 31, (-1000003), 0, [], 359),
  (44, 45, .ireturn, 29, 0, 0, [], 0),
  (45, 46, .iconst 0, 0, 0, 0, [], 0),
  (46, 47, .istore_n 2, 2, 0, 2, [], 0),
  (47, 48, .iload_n 2, 1, 0, 2, [], 0),
  (48, 49, .iload_n 1, 1, 0, 1, [], 0),
  (49, 52, .if_icmp .ge 28, 15, 77, 3, [], 0),
  (52, 53, .aload_n 0, 1, 1, 0, [], 0),
  (53, 56, .getfield 36, 18, 7, 4, [], 254),
  (56, 57, .aload_n 0, 1, 1, 0, [], 0),
  (57, 60, .getfield 26, 18, 7, 2, [], 252),
  (60, 63, .invokevirtual 140, 27, 0, 0, [], 443),
  (63, 64, .aload_n 0, 1, 1, 0, [], 0),
  (64, 67, .getfield 26, 18, 7, 2, [], 252),
  (67, 70, .invokevirtual 143, 27, 0, 43, [], 454),
  (70, 71, .pop, 25, 0, 0, [], 0),
  (71, 74, .iinc 2 1, 3, 1, 2, [], 0),
  (74, 77, .goto (-27), 16, 47, 0, [], 0),
  (77, 78, .aload_n 0, 1, 1, 0, [], 0),
  (78, 81, .getfield 26, 18, 7, 2, [], 252),
  (81, 84, .getfield 146, 18, 3, 9, [], 160),
  (84, 85, .ireturn, 29, 0, 0, [], 0)]
/-- PuddingHobs.hours(I)I -/
def hm_T91 : hm_X := (yX7_hours, prog_1_method_9_code, 3, (some .int), false, 2, [437, 56, 435, 436], hm_P91)
def hm_P92 : List hm_I := [
  (0, 1, .aload_n 0, 1, 1, 0, [], 0),
  (1, 4, .getfield 26, 18, 7, 2, [], 252),
  (4, 5, .iload_n 1, 1, 0, 1, [], 0),
  (5, 8, .invokevirtual 149, 27, 0, 32, [], 508),
  (8, 11, .ifCond .ne 6, 14, 14, 1, [], 0),
  (11, 13, .ldc 70, 31, (-1000001), 0, [], 288),
  (13, 14, .ireturn, 29, 0, 0, [], 0),
  (14, 15, .aload_n 0, 1, 1, 0, [], 0),
  (15, 18, .getfield 26, 18, 7, 2, [], 252),
  (18, 19, .iload_n 1, 1, 0, 1, [], 0),
  (19, 22, .invokevirtual 152, 27, 0, 34, [], 512),
  (22, 25, .ifCond .eq 6, 14, 28, 0, [], 0),
  (25, 27, .ldc 136, 31, (-1000002), 0, [], 442),
  (27, 28, .ireturn, 29, 0, 0, [], 0),
  (28, 29, .aload_n 0, 1, 1, 0, [], 0),
  (29, 32, .getfield 36, 18, 7, 4, [], 254),
  (32, 33, .aload_n 0, 1, 1, 0, [], 0),
  (33, 36, .getfield 26, 18, 7, 2, [], 252),
  (36, 39, .invokevirtual 140, 27, 0, 0, [], 443),
  (39, 40, .aload_n 0, 1, 1, 0, [], 0),
  (40, 43, .getfield 26, 18, 7, 2, [], 252),
  (43, 44, .iload_n 1, 1, 0, 1, [], 0),
  (44, 47, .invokevirtual 155, 27, 0, 48, [], 513),
  (47, 48, .aload_n 0, 1, 1, 0, [], 0),
  (48, 51, .getfield 26, 18, 7, 2, [], 252),
  (51, 54, .getfield 159, 18, 3, 2, [], 138),
  (54, 55, .iload_n 1, 1, 0, 1, [], 0),
  (55, 56, .iaload, 20, 0, 0, [], 0),
  (56, 57, .ireturn, 29, 0, 0, [], 0)]
/-- PuddingHobs.stir(I)I -/
def hm_T92 : hm_X := (yX7_stir, prog_1_method_10_code, 2, (some .int), false, 2, [507, 56, 505, 506], hm_P92)
def hm_P93 : List hm_I := [
  (0, 1, .aload_n 0, 1, 1, 0, [], 0),
  (1, 4, .getfield 26, 18, 7, 2, [], 252),
  (4, 5, .iload_n 1, 1, 0, 1, [], 0),
  (5, 8, .invokevirtual 149, 27, 0, 32, [], 508),
  (8, 11, .ifCond .eq 10, 14, 18, 0, [], 0),
  (11, 12, .iload_n 2, 1, 0, 2, [], 0),
  (12, 15, .invokestatic 163, 27, 0, 122, [], 521),
  (15, 18, .ifCond .ne 6, 14, 21, 1, [], 0),
  (18, 20, .ldc 70, 31, (-1000001), 0, [], 288),
  (20, 21, .ireturn, 29, 0, 0, [], 0),
  (21, 22, .iload_n 2, 1, 0, 2, [], 0),
  (22, 23, .iconst 1, 0, 0, 1, [], 0),
  (23, 26, .if_icmp .ne 7, 15, 30, 1, [], 0),
  (26, 27, .iconst 1, 0, 0, 1, [], 0),
  (27, 30, .goto 4, 16, 31, 0, [], 0),
  (30, 31, .iconst 0, 0, 0, 0, [], 0),
  (31, 32, .istore_n 3, 2, 0, 3, [], 0),
  (32, 33, .aload_n 0, 1, 1, 0, [], 0),
  (33, 36, .getfield 26, 18, 7, 2, [], 252),
  (36, 37, .iload_n 1, 1, 0, 1, [], 0),
  (37, 40, .invokevirtual 166, 27, 0, 33, [], 524),
  (40, 41, .iload_n 3, 1, 0, 3, [], 0),
  (41, 44, .if_icmp .ne 6, 15, 47, 1, [], 0),
  (44, 46, .ldc 136, 31, (-1000002), 0, [], 442),
  (46, 47, .ireturn, 29, 0, 0, [], 0),
  (47, 48, .aload_n 0, 1, 1, 0, [], 0),
  (48, 51, .getfield 36, 18, 7, 4, [], 254),
  (51, 52, .aload_n 0, 1, 1, 0, [], 0),
  (52, 55, .getfield 26, 18, 7, 2, [], 252),
  (55, 58, .invokevirtual 140, 27, 0, 0, [], 443),
  (58, 59, .aload_n 0, 1, 1, 0, [], 0),
  (59, 62, .getfield 26, 18, 7, 2, [], 252),
  (62, 63, .iload_n 1, 1, 0, 1, [], 0),
  (63, 66, .invokevirtual 169, 27, 0, 49, [], 525),
  (66, 67, .aload_n 0, 1, 1, 0, [], 0),
  (67, 70, .getfield 26, 18, 7, 2, [], 252),
  (70, 73, .getfield 172, 18, 3, 8, [], 157),
  (73, 74, .ireturn, 29, 0, 0, [], 0)]
/-- PuddingHobs.on(II)I -/
def hm_T93 : hm_X := (yX7_on, prog_1_method_11_code, 4, (some .int), false, 3, [520, 56, 518, 519], hm_P93)
def hm_P94 : List hm_I := [
  (0, 1, .aload_n 0, 1, 1, 0, [], 0),
  (1, 4, .getfield 26, 18, 7, 2, [], 252),
  (4, 5, .iload_n 1, 1, 0, 1, [], 0),
  (5, 8, .invokevirtual 149, 27, 0, 32, [], 508),
  (8, 11, .ifCond .eq 19, 14, 27, 0, [], 0),
  (11, 12, .aload_n 0, 1, 1, 0, [], 0),
  (12, 15, .getfield 26, 18, 7, 2, [], 252),
  (15, 16, .iload_n 2, 1, 0, 2, [], 0),
  (16, 19, .invokevirtual 149, 27, 0, 32, [], 508),
  (19, 22, .ifCond .eq 8, 14, 27, 0, [], 0),
  (22, 23, .iload_n 1, 1, 0, 1, [], 0),
  (23, 24, .iload_n 2, 1, 0, 2, [], 0),
  (24, 27, .if_icmp .ne 6, 15, 30, 1, [], 0),
  (27, 29, .ldc 70, 31, (-1000001), 0, [], 288),
  (29, 30, .ireturn, 29, 0, 0, [], 0),
  (30, 31, .aload_n 0, 1, 1, 0, [], 0),
  (31, 34, .getfield 36, 18, 7, 4, [], 254),
  (34, 35, .aload_n 0, 1, 1, 0, [], 0),
  (35, 38, .getfield 26, 18, 7, 2, [], 252),
  (38, 41, .invokevirtual 140, 27, 0, 0, [], 443),
  (41, 42, .aload_n 0, 1, 1, 0, [], 0),
  (42, 45, .getfield 26, 18, 7, 2, [], 252),
  (45, 46, .iload_n 1, 1, 0, 1, [], 0),
  (46, 47, .iload_n 2, 1, 0, 2, [], 0),
  (47, 50, .invokevirtual 175, 27, 0, 50, [], 533),
  (50, 51, .aload_n 0, 1, 1, 0, [], 0),
  (51, 54, .getfield 26, 18, 7, 2, [], 252),
  (54, 57, .getfield 179, 18, 3, 3, [], 140),
  (57, 58, .iload_n 1, 1, 0, 1, [], 0),
  (58, 59, .iaload, 20, 0, 0, [], 0),
  (59, 60, .ireturn, 29, 0, 0, [], 0)]
/-- PuddingHobs.swap(II)I -/
def hm_T94 : hm_X := (yX7_swap, prog_1_method_12_code, 3, (some .int), false, 3, [532, 56, 530, 531], hm_P94)
def hm_P95 : List hm_I := [
  (0, 1, .aload_n 0, 1, 1, 0, [], 0),
  (1, 4, .getfield 26, 18, 7, 2, [], 252),
  (4, 5, .iload_n 1, 1, 0, 1, [], 0),
  (5, 8, .invokevirtual 149, 27, 0, 32, [], 508),
  (8, 11, .ifCond .eq 14, 14, 22, 0, [], 0),
  (11, 12, .iload_n 2, 1, 0, 2, [], 0),
  (12, 13, .iconst 1, 0, 0, 1, [], 0),
  (13, 16, .if_icmp .lt 9, 15, 22, 2, [], 0),
  (16, 17, .iload_n 2, 1, 0, 2, [], 0),
  (17, 19, .bipush 20, 0, 0, 20, [], 0),
  (19, 22, .if_icmp .le 6, 15, 25, 5, [], 0),
  (22, 24, .ldc 70, 31, (-1000001), 0, [], 288),
  (24, 25, .ireturn, 29, 0, 0, [], 0),
  (25, 26, .aload_n 0, 1, 1, 0, [], 0),
  (26, 29, .getfield 26, 18, 7, 2, [], 252),
  (29, 30, .iload_n 1, 1, 0, 1, [], 0),
  (30, 33, .invokevirtual 152, 27, 0, 34, [], 512),
  (33, 36, .ifCond .eq 6, 14, 39, 0, [], 0),
  (36, 38, .ldc 136, 31, (-1000002), 0, [], 442),
  (38, 39, .ireturn, 29, 0, 0, [], 0),
  (39, 40, .aload_n 0, 1, 1, 0, [], 0),
  (40, 43, .getfield 36, 18, 7, 4, [], 254),
  (43, 44, .aload_n 0, 1, 1, 0, [], 0),
  (44, 47, .getfield 26, 18, 7, 2, [], 252),
  (47, 50, .invokevirtual 140, 27, 0, 0, [], 443),
  (50, 51, .aload_n 0, 1, 1, 0, [], 0),
  (51, 54, .getfield 26, 18, 7, 2, [], 252),
  (54, 57, .getfield 182, 18, 3, 1, [], 134),
  (57, 58, .iload_n 1, 1, 0, 1, [], 0),
  (58, 60, .bipush 20, 0, 0, 20, [], 0),
  (60, 61, .aload_n 0, 1, 1, 0, [], 0),
  (61, 64, .getfield 26, 18, 7, 2, [], 252),
  (64, 67, .getfield 182, 18, 3, 1, [], 134),
  (67, 68, .iload_n 1, 1, 0, 1, [], 0),
  (68, 69, .iaload, 20, 0, 0, [], 0),
  (69, 70, .iload_n 2, 1, 0, 2, [], 0),
  (70, 71, .iadd, 4, 0, 0, [], 0),
  (71, 74, .invokestatic 185, 33, 0, 0, [], 541),
  (74, 75, .iastore, 21, 0, 0, [], 0),
  (75, 76, .aload_n 0, 1, 1, 0, [], 0),
  (76, 79, .getfield 26, 18, 7, 2, [], 252),
  (79, 82, .getfield 182, 18, 3, 1, [], 134),
  (82, 83, .iload_n 1, 1, 0, 1, [], 0),
  (83, 84, .iaload, 20, 0, 0, [], 0),
  (84, 85, .ireturn, 29, 0, 0, [], 0)]
/-- PuddingHobs.plums(II)I -/
def hm_T95 : hm_X := (yX7_plums, prog_1_method_13_code, 3, (some .int), false, 3, [540, 56, 538, 539], hm_P95)
def hm_P96 : List hm_I := [
  (0, 1, .aload_n 0, 1, 1, 0, [], 0),
  (1, 4, .getfield 26, 18, 7, 2, [], 252),
  (4, 7, .invokevirtual 132, 27, 0, 31, [], 438),
  (7, 10, .ifCond .eq 6, 14, 13, 0, [], 0),
  (10, 12, .ldc 136, 31, (-1000002), 0, [], 442),
  (12, 13, .ireturn, 29, 0, 0, [], 0),
  (13, 14, .iload_n 1, 1, 0, 1, [], 0),
  (14, 17, .ifCond .lt 9, 14, 23, 2, [], 0),
  (17, 18, .iload_n 1, 1, 0, 1, [], 0),
  (18, 20, .bipush 9, 0, 0, 9, [], 0),
  (20, 23, .if_icmp .le 6, 15, 26, 5, [], 0),
  (23, 25, .ldc 70, 31, (-1000001), 0, [], 288),
  (25, 26, .ireturn, 29, 0, 0, [], 0),
  (26, 27, .aload_n 0, 1, 1, 0, [], 0),
  (27, 30, .getfield 36, 18, 7, 4, [], 254),
  (30, 31, .aload_n 0, 1, 1, 0, [], 0),
  (31, 34, .getfield 26, 18, 7, 2, [], 252),
  (34, 37, .invokevirtual 140, 27, 0, 0, [], 443),
  (37, 38, .aload_n 0, 1, 1, 0, [], 0),
  (38, 41, .getfield 26, 18, 7, 2, [], 252),
  (41, 44, .getfield 191, 18, 3, 5, [], 148),
  (44, 45, .istore_n 2, 2, 0, 2, [], 0),
  (45, 46, .aload_n 0, 1, 1, 0, [], 0),
  (46, 49, .getfield 26, 18, 7, 2, [], 252),
  (49, 50, .iload_n 1, 1, 0, 1, [], 0),
  (50, 53, .putfield 191, 19, 3, 5, [], 148),
  (53, 54, .iload_n 2, 1, 0, 2, [], 0),
  (54, 55, .ireturn, 29, 0, 0, [], 0)]
/-- PuddingHobs.heat(I)I -/
def hm_T96 : hm_X := (yX7_heat, prog_1_method_14_code, 3, (some .int), false, 2, [545, 56, 543, 544], hm_P96)
def hm_P97 : List hm_I := [
  (0, 1, .aload_n 0, 1, 1, 0, [], 0),
  (1, 4, .getfield 36, 18, 7, 4, [], 254),
  (4, 5, .aload_n 0, 1, 1, 0, [], 0),
  (5, 8, .getfield 26, 18, 7, 2, [], 252),
  (8, 11, .invokevirtual 194, 27, 0, 1, [], 550),
  (11, 14, .ifCond .eq 13, 14, 24, 0, [], 0),
  (14, 15, .aload_n 0, 1, 1, 0, [], 0),
  (15, 18, .getfield 36, 18, 7, 4, [], 254),
  (18, 21, .invokevirtual 197, 27, 0, 3, [], 558),
  (21, 24, .goto 5, 16, 26, 0, [], 0),
  (24, 26, .ldc 136, 31, (-1000002), 0, [], 442),
  (26, 27, .ireturn, 29, 0, 0, [], 0)]
/-- PuddingHobs.undo()I -/
def hm_T97 : hm_X := (yX7_undo, prog_1_method_15_code, 1, (some .int), false, 1, [549, 56, 547, 548], hm_P97)
def hm_P98 : List hm_I := [
  (0, 1, .aload_n 0, 1, 1, 0, [], 0),
  (1, 4, .getfield 26, 18, 7, 2, [], 252),
  (4, 5, .iload_n 1, 1, 0, 1, [], 0),
  (5, 8, .invokevirtual 149, 27, 0, 32, [], 508),
  (8, 11, .ifCond .ne 6, 14, 14, 1, [], 0),
  (11, 13, .ldc 70, 31, (-1000001), 0, [], 288),
  (13, 14, .ireturn, 29, 0, 0, [], 0),
  (14, 15, .iload_n 2, 1, 0, 2, [], 0),
  (15, 56, .tableswitch 123 0 6 #[41, 51, 61, 71, 88, 105, 114], 17, 138, 0, [(0, 56), (1, 66), (2, 76), (3, 86), (4, 103), (5, 120), (6, 129)], 0),
  (56, 57, .aload_n 0, 1, 1, 0, [], 0),
  (57, 60, .getfield 26, 18, 7, 2, [], 252),
  (60, 63, .getfield 159, 18, 3, 2, [], 138),
  (63, 64, .iload_n 1, 1, 0, 1, [], 0),
  (64, 65, .iaload, 20, 0, 0, [], 0),
  (65, 66, .ireturn, 29, 0, 0, [], 0),
  (66, 67, .aload_n 0, 1, 1, 0, [], 0),
  (67, 70, .getfield 26, 18, 7, 2, [], 252),
  (70, 73, .getfield 182, 18, 3, 1, [], 134),
  (73, 74, .iload_n 1, 1, 0, 1, [], 0),
  (74, 75, .iaload, 20, 0, 0, [], 0),
  (75, 76, .ireturn, 29, 0, 0, [], 0),
  (76, 77, .aload_n 0, 1, 1, 0, [], 0),
  (77, 80, .getfield 26, 18, 7, 2, [], 252),
  (80, 83, .getfield 179, 18, 3, 3, [], 140),
  (83, 84, .iload_n 1, 1, 0, 1, [], 0),
  (84, 85, .iaload, 20, 0, 0, [], 0),
  (85, 86, .ireturn, 29, 0, 0, [], 0),
  (86, 87, .aload_n 0, 1, 1, 0, [], 0),
  (87, 90, .getfield 26, 18, 7, 2, [], 252),
  (90, 91, .iload_n 1, 1, 0, 1, [], 0),
  (91, 94, .invokevirtual 166, 27, 0, 33, [], 524),
  (94, 97, .ifCond .eq 7, 14, 101, 0, [], 0),
  (97, 98, .iconst 1, 0, 0, 1, [], 0),
  (98, 101, .goto 4, 16, 102, 0, [], 0),
  (101, 102, .iconst 0, 0, 0, 0, [], 0),
  (102, 103, .ireturn, 29, 0, 0, [], 0),
  (103, 104, .aload_n 0, 1, 1, 0, [], 0),
  (104, 107, .getfield 26, 18, 7, 2, [], 252),
  (107, 108, .iload_n 1, 1, 0, 1, [], 0),
  (108, 111, .invokevirtual 152, 27, 0, 34, [], 512),
  (111, 114, .ifCond .eq 7, 14, 118, 0, [], 0),
  (114, 115, .iconst 1, 0, 0, 1, [], 0),
  (115, 118, .goto 4, 16, 119, 0, [], 0),
  (118, 119, .iconst 0, 0, 0, 0, [], 0),
  (119, 120, .ireturn, 29, 0, 0, [], 0),
  (120, 121, .aload_n 0, 1, 1, 0, [], 0),
  (121, 124, .getfield 26, 18, 7, 2, [], 252),
  (124, 125, .iload_n 1, 1, 0, 1, [], 0),
  (125, 128, .invokevirtual 200, 27, 0, 41, [], 566),
  (128, 129, .ireturn, 29, 0, 0, [], 0),
  (129, 130, .aload_n 0, 1, 1, 0, [], 0),
  (130, 133, .getfield 26, 18, 7, 2, [], 252),
  (133, 134, .iload_n 1, 1, 0, 1, [], 0),
  (134, 137, .invokevirtual 203, 27, 0, 42, [], 567),
  (137, 138, .ireturn, 29, 0, 0, [], 0),
  (138, 140, .ldc 70, 31, (-1000001), 0, [], 288),
  (140, 141, .ireturn, 29, 0, 0, [], 0)]
/-- PuddingHobs.basin(II)I -/
def hm_T98 : hm_X := (yX7_basin, prog_1_method_16_code, 3, (some .int), false, 3, [565, 56, 563, 564], hm_P98)
def hm_P99 : List hm_I := [
  (0, 1, .iconst 0, 0, 0, 0, [], 0),
  (1, 2, .istore_n 2, 2, 0, 2, [], 0),
  (2, 3, .iload_n 2, 1, 0, 2, [], 0),
  (3, 4, .aload_n 0, 1, 1, 0, [], 0),
  (4, 7, .getfield 26, 18, 7, 2, [], 252),
  (7, 10, .getfield 126, 18, 3, 4, [], 143),
  (10, 13, .if_icmp .ge 24, 15, 34, 3, [], 0),
  (13, 14, .aload_n 0, 1, 1, 0, [], 0),
  (14, 17, .getfield 26, 18, 7, 2, [], 252),
  (17, 20, .getfield 179, 18, 3, 3, [], 140),
  (20, 21, .iload_n 2, 1, 0, 2, [], 0),
  (21, 22, .iaload, 20, 0, 0, [], 0),
  (22, 23, .iload_n 1, 1, 0, 1, [], 0),
  (23, 26, .if_icmp .ne 5, 15, 28, 1, [], 0),
  (26, 27, .iload_n 2, 1, 0, 2, [], 0),
  (27, 28, .ireturn, 29, 0, 0, [], 0),
  (28, 31, .iinc 2 1, 3, 1, 2, [], 0),
  (31, 34, .goto (-29), 16, 2, 0, [], 0),
  (34, 36, .ldc 70, 31, (-1000001), 0, [], 288),
  (36, 37, .ireturn, 29, 0, 0, [], 0)]
/-- PuddingHobs.place(I)I -/
def hm_T99 : hm_X := (yX7_place, prog_1_method_17_code, 3, (some .int), false, 2, [571, 56, 569, 570], hm_P99)
def hm_P100 : List hm_I := [
  (0, 1, .aload_n 0, 1, 1, 0, [], 0),
  (1, 4, .getfield 26, 18, 7, 2, [], 252),
  (4, 5, .iload_n 1, 1, 0, 1, [], 0),
  (5, 8, .invokevirtual 149, 27, 0, 32, [], 508),
  (8, 11, .ifCond .eq 13, 14, 21, 0, [], 0),
  (11, 12, .iload_n 2, 1, 0, 2, [], 0),
  (12, 15, .ifCond .lt 9, 14, 21, 2, [], 0),
  (15, 16, .iload_n 2, 1, 0, 2, [], 0),
  (16, 18, .bipush 60, 0, 0, 60, [], 0),
  (18, 21, .if_icmp .le 6, 15, 24, 5, [], 0),
  (21, 23, .ldc 70, 31, (-1000001), 0, [], 288),
  (23, 24, .ireturn, 29, 0, 0, [], 0),
  (24, 25, .aload_n 0, 1, 1, 0, [], 0),
  (25, 28, .getfield 52, 18, 7, 6, [], 256),
  (28, 29, .iload_n 1, 1, 0, 1, [], 0),
  (29, 30, .iload_n 2, 1, 0, 2, [], 0),
  (30, 33, .invokevirtual 206, 27, 0, 10, [], 576),
  (33, 34, .ireturn, 29, 0, 0, [], 0)]
/-- PuddingHobs.swell(II)I -/
def hm_T100 : hm_X := (yX7_swell, prog_1_method_18_code, 3, (some .int), false, 3, [575, 56, 573, 574], hm_P100)
def hm_P101 : List hm_I := [
  (0, 1, .aload_n 0, 1, 1, 0, [], 0),
  (1, 4, .getfield 26, 18, 7, 2, [], 252),
  (4, 7, .invokevirtual 132, 27, 0, 31, [], 438),
  (7, 10, .ifCond .eq 6, 14, 13, 0, [], 0),
  (10, 12, .ldc 136, 31, (-1000002), 0, [], 442),
  (12, 13, .ireturn, 29, 0, 0, [], 0),
  (13, 14, .iload_n 1, 1, 0, 1, [], 0),
  (14, 17, .ifCond .lt 9, 14, 23, 2, [], 0),
  (17, 18, .iload_n 1, 1, 0, 1, [], 0),
  (18, 20, .bipush 60, 0, 0, 60, [], 0),
  (20, 23, .if_icmp .le 6, 15, 26, 5, [], 0),
  (23, 25, .ldc 70, 31, (-1000001), 0, [], 288),
  (25, 26, .ireturn, 29, 0, 0, [], 0),
  (26, 27, .aload_n 0, 1, 1, 0, [], 0),
  (27, 30, .getfield 52, 18, 7, 6, [], 256),
  (30, 31, .iload_n 1, 1, 0, 1, [], 0),
  (31, 34, .invokevirtual 209, 27, 0, 11, [], 594),
  (34, 35, .ireturn, 29, 0, 0, [], 0)]
/-- PuddingHobs.burst(I)I -/
def hm_T101 : hm_X := (yX7_burst, prog_1_method_19_code, 2, (some .int), false, 2, [593, 56, 591, 592], hm_P101)
def hm_P102 : List hm_I := [
  (0, 1, .aload_n 0, 1, 1, 0, [], 0),
  (1, 4, .getfield 26, 18, 7, 2, [], 252),
  (4, 5, .iload_n 1, 1, 0, 1, [], 0),
  (5, 8, .invokevirtual 149, 27, 0, 32, [], 508),
  (8, 11, .ifCond .ne 6, 14, 14, 1, [], 0),
  (11, 13, .ldc 70, 31, (-1000001), 0, [], 288),
  (13, 14, .ireturn, 29, 0, 0, [], 0),
  (14, 15, .aload_n 0, 1, 1, 0, [], 0),
  (15, 18, .getfield 52, 18, 7, 6, [], 256),
  (18, 19, .iload_n 1, 1, 0, 1, [], 0),
  (19, 22, .invokevirtual 212, 27, 0, 12, [], 602),
  (22, 23, .ireturn, 29, 0, 0, [], 0)]
/-- PuddingHobs.bursting(I)I -/
def hm_T102 : hm_X := (yX7_bursting, prog_1_method_20_code, 2, (some .int), false, 2, [601, 56, 599, 600], hm_P102)
def hm_P103 : List hm_I := [
  (0, 1, .aload_n 0, 1, 1, 0, [], 0),
  (1, 4, .getfield 26, 18, 7, 2, [], 252),
  (4, 7, .invokevirtual 132, 27, 0, 31, [], 438),
  (7, 10, .ifCond .eq 6, 14, 13, 0, [], 0),
  (10, 12, .ldc 136, 31, (-1000002), 0, [], 442),
  (12, 13, .ireturn, 29, 0, 0, [], 0),
  (13, 14, .iload_n 1, 1, 0, 1, [], 0),
  (14, 17, .invokestatic 163, 27, 0, 122, [], 521),
  (17, 20, .ifCond .ne 6, 14, 23, 1, [], 0),
  (20, 22, .ldc 70, 31, (-1000001), 0, [], 288),
  (22, 23, .ireturn, 29, 0, 0, [], 0),
  (23, 24, .aload_n 0, 1, 1, 0, [], 0),
  (24, 27, .getfield 52, 18, 7, 6, [], 256),
  (27, 28, .iload_n 1, 1, 0, 1, [], 0),
  (28, 31, .invokevirtual 215, 27, 0, 13, [], 612),
  (31, 32, .ireturn, 29, 0, 0, [], 0)]
/-- PuddingHobs.first(I)I -/
def hm_T103 : hm_X := (yX7_first, prog_1_method_21_code, 2, (some .int), false, 2, [611, 56, 609, 610], hm_P103)
def hm_P104 : List hm_I := [
  (0, 1, .aload_n 0, 1, 1, 0, [], 0),
  (1, 4, .getfield 26, 18, 7, 2, [], 252),
  (4, 5, .iload_n 1, 1, 0, 1, [], 0),
  (5, 8, .invokevirtual 149, 27, 0, 32, [], 508),
  (8, 11, .ifCond .eq 10, 14, 18, 0, [], 0),
  (11, 12, .iload_n 2, 1, 0, 2, [], 0),
  (12, 15, .invokestatic 218, 27, 0, 123, [], 624),
  (15, 18, .ifCond .ne 6, 14, 21, 1, [], 0),
  (18, 20, .ldc 70, 31, (-1000001), 0, [], 288),
  (20, 21, .ireturn, 29, 0, 0, [], 0),
  (21, 22, .aload_n 0, 1, 1, 0, [], 0),
  (22, 25, .getfield 52, 18, 7, 6, [], 256),
  (25, 26, .iload_n 1, 1, 0, 1, [], 0),
  (26, 27, .iload_n 2, 1, 0, 2, [], 0),
  (27, 30, .invokevirtual 221, 27, 0, 14, [], 627),
  (30, 31, .ireturn, 29, 0, 0, [], 0)]
/-- PuddingHobs.stirs(II)I -/
def hm_T104 : hm_X := (yX7_stirs, prog_1_method_22_code, 3, (some .int), false, 3, [623, 56, 621, 622], hm_P104)
def hm_P105 : List hm_I := [
  (0, 1, .aload_n 0, 1, 1, 0, [], 0),
  (1, 4, .getfield 26, 18, 7, 2, [], 252),
  (4, 7, .invokevirtual 132, 27, 0, 31, [], 438),
  (7, 10, .ifCond .eq 6, 14, 13, 0, [], 0),
  (10, 12, .ldc 136, 31, (-1000002), 0, [], 442),
  (12, 13, .ireturn, 29, 0, 0, [], 0),
  (13, 14, .iload_n 1, 1, 0, 1, [], 0),
  (14, 17, .invokestatic 218, 27, 0, 123, [], 624),
  (17, 20, .ifCond .eq 10, 14, 27, 0, [], 0),
  (20, 21, .iload_n 2, 1, 0, 2, [], 0),
  (21, 24, .invokestatic 163, 27, 0, 122, [], 521),
  (24, 27, .ifCond .ne 6, 14, 30, 1, [], 0),
  (27, 29, .ldc 70, 31, (-1000001), 0, [], 288),
  (29, 30, .ireturn, 29, 0, 0, [], 0),
  (30, 31, .aload_n 0, 1, 1, 0, [], 0),
  (31, 34, .getfield 52, 18, 7, 6, [], 256),
  (34, 35, .iload_n 1, 1, 0, 1, [], 0),
  (35, 38, .invokevirtual 224, 27, 0, 15, [], 640),
  (38, 39, .istore_n 3, 2, 0, 3, [], 0),
  (39, 40, .iload_n 3, 1, 0, 3, [], 0),
  (40, 42, .ldc 227, 31, (-1000000), 0, [], 649),
  (42, 45, .if_icmp .eq 8, 15, 50, 0, [], 0),
  (45, 46, .iload_n 2, 1, 0, 2, [], 0),
  (46, 47, .iconst 1, 0, 0, 1, [], 0),
  (47, 50, .if_icmp .ne 7, 15, 54, 1, [], 0),
  (50, 51, .iload_n 3, 1, 0, 3, [], 0),
  (51, 54, .goto 7, 16, 58, 0, [], 0),
  (54, 55, .iload_n 3, 1, 0, 3, [], 0),
  (55, 58, .invokestatic 228, 27, 0, 207, [], 650),
  (58, 59, .ireturn, 29, 0, 0, [], 0)]
/-- PuddingHobs.off(II)I -/
def hm_T105 : hm_X := (yX7_off, prog_1_method_23_code, 4, (some .int), false, 3, [639, 56, 637, 638], hm_P105)
def hm_P106 : List hm_I := [
  (0, 1, .aload_n 0, 1, 1, 0, [], 0),
  (1, 4, .getfield 26, 18, 7, 2, [], 252),
  (4, 7, .invokevirtual 132, 27, 0, 31, [], 438),
  (7, 10, .ifCond .eq 6, 14, 13, 0, [], 0),
  (10, 12, .ldc 136, 31, (-1000002), 0, [], 442),
  (12, 13, .ireturn, 29, 0, 0, [], 0),
  (13, 14, .iload_n 1, 1, 0, 1, [], 0),
  (14, 17, .invokestatic 218, 27, 0, 123, [], 624),
  (17, 20, .ifCond .eq 10, 14, 27, 0, [], 0),
  (20, 21, .iload_n 2, 1, 0, 2, [], 0),
  (21, 24, .invokestatic 163, 27, 0, 122, [], 521),
  (24, 27, .ifCond .ne 6, 14, 30, 1, [], 0),
  (27, 29, .ldc 70, 31, (-1000001), 0, [], 288),
  (29, 30, .ireturn, 29, 0, 0, [], 0),
  (30, 31, .aload_n 0, 1, 1, 0, [], 0),
  (31, 34, .getfield 52, 18, 7, 6, [], 256),
  (34, 35, .iload_n 1, 1, 0, 1, [], 0),
  (35, 36, .iload_n 2, 1, 0, 2, [], 0),
  (36, 39, .invokevirtual 233, 27, 0, 16, [], 655),
  (39, 40, .ireturn, 29, 0, 0, [], 0)]
/-- PuddingHobs.change(II)I -/
def hm_T106 : hm_X := (yX7_change, prog_1_method_24_code, 3, (some .int), false, 3, [654, 56, 652, 653], hm_P106)
def hm_P107 : List hm_I := [
  (0, 1, .aload_n 0, 1, 1, 0, [], 0),
  (1, 4, .getfield 26, 18, 7, 2, [], 252),
  (4, 7, .invokevirtual 132, 27, 0, 31, [], 438),
  (7, 10, .ifCond .eq 6, 14, 13, 0, [], 0),
  (10, 12, .ldc 136, 31, (-1000002), 0, [], 442),
  (12, 13, .ireturn, 29, 0, 0, [], 0),
  (13, 14, .iload_n 1, 1, 0, 1, [], 0),
  (14, 17, .invokestatic 218, 27, 0, 123, [], 624),
  (17, 20, .ifCond .ne 6, 14, 23, 1, [], 0),
  (20, 22, .ldc 70, 31, (-1000001), 0, [], 288),
  (22, 23, .ireturn, 29, 0, 0, [], 0),
  (23, 24, .aload_n 0, 1, 1, 0, [], 0),
  (24, 27, .getfield 52, 18, 7, 6, [], 256),
  (27, 28, .iload_n 1, 1, 0, 1, [], 0),
  (28, 31, .invokevirtual 236, 27, 0, 17, [], 664),
  (31, 32, .ireturn, 29, 0, 0, [], 0)]
/-- PuddingHobs.hottest(I)I -/
def hm_T107 : hm_X := (yX7_hottest, prog_1_method_25_code, 2, (some .int), false, 2, [663, 56, 661, 662], hm_P107)
def hm_P108 : List hm_I := [
  (0, 1, .aload_n 0, 1, 1, 0, [], 0),
  (1, 4, .getfield 26, 18, 7, 2, [], 252),
  (4, 5, .iload_n 1, 1, 0, 1, [], 0),
  (5, 8, .invokevirtual 149, 27, 0, 32, [], 508),
  (8, 11, .ifCond .eq 14, 14, 22, 0, [], 0),
  (11, 12, .iload_n 2, 1, 0, 2, [], 0),
  (12, 15, .ifCond .lt 10, 14, 22, 2, [], 0),
  (15, 16, .iload_n 2, 1, 0, 2, [], 0),
  (16, 19, .sipush 999, 0, 0, 999, [], 0),
  (19, 22, .if_icmp .le 6, 15, 25, 5, [], 0),
  (22, 24, .ldc 70, 31, (-1000001), 0, [], 288),
  (24, 25, .ireturn, 29, 0, 0, [], 0),
  (25, 26, .aload_n 0, 1, 1, 0, [], 0),
  (26, 29, .getfield 26, 18, 7, 2, [], 252),
  (29, 30, .iload_n 1, 1, 0, 1, [], 0),
  (30, 31, .iload_n 2, 1, 0, 2, [], 0),
  (31, 34, .invokevirtual 239, 27, 0, 52, [], 672),
  (34, 35, .ireturn, 29, 0, 0, [], 0)]
/-- PuddingHobs.slices(II)I -/
def hm_T108 : hm_X := (yX7_slices, prog_1_method_26_code, 3, (some .int), false, 3, [671, 56, 669, 670], hm_P108)
def hm_P109 : List hm_I := [
  (0, 1, .aload_n 0, 1, 1, 0, [], 0),
  (1, 4, .getfield 26, 18, 7, 2, [], 252),
  (4, 5, .iload_n 1, 1, 0, 1, [], 0),
  (5, 8, .invokevirtual 149, 27, 0, 32, [], 508),
  (8, 11, .ifCond .eq 34, 14, 42, 0, [], 0),
  (11, 12, .iload_n 2, 1, 0, 2, [], 0),
  (12, 15, .invokestatic 63, 27, 0, 57, [], 282),
  (15, 18, .ifCond .eq 27, 14, 42, 0, [], 0),
  (18, 20, .iload 4, 1, 0, 4, [], 0),
  (20, 21, .iconst 1, 0, 0, 1, [], 0),
  (21, 24, .if_icmp .lt 21, 15, 42, 2, [], 0),
  (24, 26, .iload 4, 1, 0, 4, [], 0),
  (26, 28, .bipush 12, 0, 0, 12, [], 0),
  (28, 31, .if_icmp .gt 14, 15, 42, 4, [], 0),
  (31, 33, .iload 5, 1, 0, 5, [], 0),
  (33, 36, .ifCond .lt 9, 14, 42, 2, [], 0),
  (36, 38, .iload 5, 1, 0, 5, [], 0),
  (38, 39, .iconst 4, 0, 0, 4, [], 0),
  (39, 42, .if_icmp .le 6, 15, 45, 5, [], 0),
  (42, 44, .ldc 70, 31, (-1000001), 0, [], 288),
  (44, 45, .ireturn, 29, 0, 0, [], 0),
  (45, 46, .aload_n 0, 1, 1, 0, [], 0),
  (46, 49, .getfield 10, 18, 7, 0, [], 250),
  (49, 50, .iload_n 2, 1, 0, 2, [], 0),
  (50, 53, .invokevirtual 82, 27, 0, 59, [], 309),
  (53, 56, .ifCond .eq 9, 14, 62, 0, [], 0),
  (56, 57, .aload_n 0, 1, 1, 0, [], 0),
  (57, 58, .iconst 1, 0, 0, 1, [], 0),
  (58, 61, .invokevirtual 71, 27, 0, 120, [], 289),
  (61, 62, .ireturn, 29, 0, 0, [], 0),
  (62, 63, .aload_n 0, 1, 1, 0, [], 0),
  (63, 66, .getfield 10, 18, 7, 0, [], 250),
  (66, 67, .iload_n 2, 1, 0, 2, [], 0),
  (67, 68, .iload_n 3, 1, 0, 3, [], 0),
  (68, 70, .iload 4, 1, 0, 4, [], 0),
  (70, 73, .invokevirtual 85, 27, 0, 61, [], 313),
  (73, 76, .ifCond .ne 9, 14, 82, 1, [], 0),
  (76, 77, .aload_n 0, 1, 1, 0, [], 0),
  (77, 78, .iconst 2, 0, 0, 2, [], 0),
  (78, 81, .invokevirtual 71, 27, 0, 120, [], 289),
  (81, 82, .ireturn, 29, 0, 0, [], 0),
  (82, 83, .iconst 0, 0, 0, 0, [], 0),
  (83, 85, .istore 6, 2, 0, 6, [], 0),
  (85, 87, .iload 6, 1, 0, 6, [], 0),
  (87, 89, .iload 4, 1, 0, 4, [], 0),
  (89, 92, .if_icmp .ge 31, 15, 120, 3, [], 0),
  (92, 93, .aload_n 0, 1, 1, 0, [], 0),
  (93, 96, .getfield 52, 18, 7, 6, [], 256),
  (96, 99, .getfield 242, 18, 2, 2, [], 226),
  (99, 101, .iload 6, 1, 0, 6, [], 0),
  (101, 102, .aload_n 0, 1, 1, 0, [], 0),
  (102, 105, .getfield 10, 18, 7, 0, [], 250),
  (105, 106, .iload_n 2, 1, 0, 2, [], 0),
  (106, 107, .iload_n 3, 1, 0, 3, [], 0),
  (107, 109, .iload 6, 1, 0, 6, [], 0),
  (109, 110, .iadd, 4, 0, 0, [], 0),
  (110, 113, .invokevirtual 245, 27, 0, 65, [], 684),
  (113, 114, .iastore, 21, 0, 0, [], 0),
  (114, 117, .iinc 6 1, 3, 1, 6, [], 0),
  (117, 120, .goto (-32), 16, 85, 0, [], 0),
  (120, 121, .aload_n 0, 1, 1, 0, [], 0),
  (121, 122, .aload_n 0, 1, 1, 0, [], 0),
  (122, 125, .getfield 52, 18, 7, 6, [], 256),
  (125, 126, .iload_n 1, 1, 0, 1, [], 0),
  (126, 128, .iload 4, 1, 0, 4, [], 0),
  (128, 130, .iload 5, 1, 0, 5, [], 0),
  (130, 133, .invokevirtual 248, 27, 0, 18, [], 688),
  (133, 136, .invokevirtual 79, 27, 0, 121, [], 301),
  (136, 137, .ireturn, 29, 0, 0, [], 0)]
/-- PuddingHobs.fits(IIIII)I -/
def hm_T109 : hm_X := (yX7_fits, prog_1_method_27_code, 7, (some .int), false, 6, [683, 56, 681, 682], hm_P109)
def hm_P110 : List hm_I := [
  (0, 1, .aload_n 0, 1, 1, 0, [], 0),
  (1, 4, .getfield 26, 18, 7, 2, [], 252),
  (4, 5, .iload_n 1, 1, 0, 1, [], 0),
  (5, 8, .invokevirtual 149, 27, 0, 32, [], 508),
  (8, 11, .ifCond .eq 31, 14, 39, 0, [], 0),
  (11, 12, .iload_n 2, 1, 0, 2, [], 0),
  (12, 15, .ifCond .lt 27, 14, 39, 2, [], 0),
  (15, 16, .iload_n 2, 1, 0, 2, [], 0),
  (16, 18, .bipush 30, 0, 0, 30, [], 0),
  (18, 21, .if_icmp .gt 21, 15, 39, 4, [], 0),
  (21, 22, .iload_n 3, 1, 0, 3, [], 0),
  (22, 25, .ifCond .lt 17, 14, 39, 2, [], 0),
  (25, 26, .iload_n 3, 1, 0, 3, [], 0),
  (26, 28, .bipush 10, 0, 0, 10, [], 0),
  (28, 31, .if_icmp .gt 11, 15, 39, 4, [], 0),
  (31, 33, .iload 4, 1, 0, 4, [], 0),
  (33, 36, .invokestatic 163, 27, 0, 122, [], 521),
  (36, 39, .ifCond .ne 6, 14, 42, 1, [], 0),
  (39, 41, .ldc 70, 31, (-1000001), 0, [], 288),
  (41, 42, .ireturn, 29, 0, 0, [], 0),
  (42, 43, .aload_n 0, 1, 1, 0, [], 0),
  (43, 46, .getfield 52, 18, 7, 6, [], 256),
  (46, 47, .iload_n 1, 1, 0, 1, [], 0),
  (47, 48, .iload_n 2, 1, 0, 2, [], 0),
  (48, 49, .iload_n 3, 1, 0, 3, [], 0),
  (49, 51, .iload 4, 1, 0, 4, [], 0),
  (51, 54, .invokevirtual 251, 27, 0, 21, [], 708),
  (54, 55, .ireturn, 29, 0, 0, [], 0)]
/-- PuddingHobs.mice(IIII)I -/
def hm_T110 : hm_X := (yX7_mice, prog_1_method_28_code, 5, (some .int), false, 5, [707, 56, 705, 706], hm_P110)
def hm_P111 : List hm_I := [
  (0, 1, .aload_n 0, 1, 1, 0, [], 0),
  (1, 4, .getfield 26, 18, 7, 2, [], 252),
  (4, 7, .invokevirtual 132, 27, 0, 31, [], 438),
  (7, 10, .ifCond .eq 6, 14, 13, 0, [], 0),
  (10, 12, .ldc 136, 31, (-1000002), 0, [], 442),
  (12, 13, .ireturn, 29, 0, 0, [], 0),
  (13, 14, .iload_n 1, 1, 0, 1, [], 0),
  (14, 17, .ifCond .lt 27, 14, 41, 2, [], 0),
  (17, 18, .iload_n 1, 1, 0, 1, [], 0),
  (18, 20, .bipush 60, 0, 0, 60, [], 0),
  (20, 23, .if_icmp .gt 21, 15, 41, 4, [], 0),
  (23, 24, .iload_n 2, 1, 0, 2, [], 0),
  (24, 25, .iconst 1, 0, 0, 1, [], 0),
  (25, 28, .if_icmp .lt 16, 15, 41, 2, [], 0),
  (28, 29, .iload_n 2, 1, 0, 2, [], 0),
  (29, 31, .ldc 255, 0, 0, 999999, [], 728),
  (31, 34, .if_icmp .gt 10, 15, 41, 4, [], 0),
  (34, 35, .iload_n 3, 1, 0, 3, [], 0),
  (35, 38, .invokestatic 163, 27, 0, 122, [], 521),
  (38, 41, .ifCond .ne 6, 14, 44, 1, [], 0),
  (41, 43, .ldc 70, 31, (-1000001), 0, [], 288),
  (43, 44, .ireturn, 29, 0, 0, [], 0),
  (44, 45, .aload_n 0, 1, 1, 0, [], 0),
  (45, 48, .getfield 52, 18, 7, 6, [], 256),
  (48, 49, .iload_n 1, 1, 0, 1, [], 0),
  (49, 50, .iload_n 2, 1, 0, 2, [], 0),
  (50, 51, .iload_n 3, 1, 0, 3, [], 0),
  (51, 54, .invokevirtual 256, 27, 0, 25, [], 729),
  (54, 55, .ireturn, 29, 0, 0, [], 0)]
/-- PuddingHobs.drawn(III)I -/
def hm_T111 : hm_X := (yX7_drawn, prog_1_method_29_code, 4, (some .int), false, 4, [727, 56, 725, 726], hm_P111)
def hm_P112 : List hm_I := [
  (0, 1, .iload_n 1, 1, 0, 1, [], 0),
  (1, 4, .invokestatic 163, 27, 0, 122, [], 521),
  (4, 7, .ifCond .ne 6, 14, 10, 1, [], 0),
  (7, 9, .ldc 70, 31, (-1000001), 0, [], 288),
  (9, 10, .ireturn, 29, 0, 0, [], 0),
  (10, 11, .aload_n 0, 1, 1, 0, [], 0),
  (11, 14, .getfield 26, 18, 7, 2, [], 252),
  (14, 17, .invokevirtual 132, 27, 0, 31, [], 438),
  (17, 20, .ifCond .eq 6, 14, 23, 0, [], 0),
  (20, 22, .ldc 136, 31, (-1000002), 0, [], 442),
  (22, 23, .ireturn, 29, 0, 0, [], 0),
  (23, 24, .aload_n 0, 1, 1, 0, [], 0),
  (24, 27, .getfield 43, 18, 7, 5, [], 255),
  (27, 28, .iload_n 1, 1, 0, 1, [], 0),
  (28, 29, .aload_n 0, 1, 1, 0, [], 0),
  (29, 32, .getfield 26, 18, 7, 2, [], 252),
  (32, 35, .invokevirtual 259, 27, 0, 54, [], 751),
  (35, 36, .iconst 1, 0, 0, 1, [], 0),
  (36, 37, .ireturn, 29, 0, 0, [], 0)]
/-- PuddingHobs.image(I)I -/
def hm_T112 : hm_X := (yX7_image, prog_1_method_30_code, 2, (some .int), false, 2, [750, 56, 748, 749], hm_P112)
def hm_P113 : List hm_I := [
  (0, 1, .iload_n 1, 1, 0, 1, [], 0),
  (1, 4, .invokestatic 163, 27, 0, 122, [], 521),
  (4, 7, .ifCond .ne 6, 14, 10, 1, [], 0),
  (7, 9, .ldc 70, 31, (-1000001), 0, [], 288),
  (9, 10, .ireturn, 29, 0, 0, [], 0),
  (10, 11, .aload_n 0, 1, 1, 0, [], 0),
  (11, 14, .getfield 43, 18, 7, 5, [], 255),
  (14, 15, .iload_n 1, 1, 0, 1, [], 0),
  (15, 18, .invokevirtual 262, 27, 0, 55, [], 760),
  (18, 21, .ifCond .ne 6, 14, 24, 1, [], 0),
  (21, 23, .ldc 136, 31, (-1000002), 0, [], 442),
  (23, 24, .ireturn, 29, 0, 0, [], 0),
  (24, 25, .aload_n 0, 1, 1, 0, [], 0),
  (25, 28, .getfield 43, 18, 7, 5, [], 255),
  (28, 29, .iload_n 1, 1, 0, 1, [], 0),
  (29, 30, .aload_n 0, 1, 1, 0, [], 0),
  (30, 33, .getfield 26, 18, 7, 2, [], 252),
  (33, 36, .invokevirtual 265, 27, 0, 56, [], 764),
  (36, 37, .aload_n 0, 1, 1, 0, [], 0),
  (37, 40, .getfield 36, 18, 7, 4, [], 254),
  (40, 43, .invokevirtual 123, 27, 0, 2, [], 422),
  (43, 44, .iconst 1, 0, 0, 1, [], 0),
  (44, 45, .ireturn, 29, 0, 0, [], 0)]
/-- PuddingHobs.restore(I)I -/
def hm_T113 : hm_X := (yX7_restore, prog_1_method_31_code, 2, (some .int), false, 2, [759, 56, 757, 758], hm_P113)
def hm_P114 : List hm_I := [
  (0, 1, .aload_n 0, 1, 1, 0, [], 0),
  (1, 4, .getfield 26, 18, 7, 2, [], 252),
  (4, 5, .iload_n 1, 1, 0, 1, [], 0),
  (5, 8, .invokevirtual 149, 27, 0, 32, [], 508),
  (8, 11, .ifCond .eq 15, 14, 23, 0, [], 0),
  (11, 12, .aload_n 0, 1, 1, 0, [], 0),
  (12, 15, .getfield 26, 18, 7, 2, [], 252),
  (15, 18, .getfield 268, 18, 3, 0, [], 130),
  (18, 19, .iload_n 1, 1, 0, 1, [], 0),
  (19, 20, .iaload, 20, 0, 0, [], 0),
  (20, 23, .goto 5, 16, 25, 0, [], 0),
  (23, 25, .ldc 70, 31, (-1000001), 0, [], 288),
  (25, 26, .ireturn, 29, 0, 0, [], 0)]
/-- PuddingHobs.kind(I)I -/
def hm_T114 : hm_X := (yX7_kind, prog_1_method_32_code, 2, (some .int), false, 2, [772, 56, 770, 771], hm_P114)
def hm_P115 : List hm_I := [
  (0, 1, .aload_n 0, 1, 1, 0, [], 0),
  (1, 4, .getfield 26, 18, 7, 2, [], 252),
  (4, 5, .iload_n 1, 1, 0, 1, [], 0),
  (5, 8, .invokevirtual 149, 27, 0, 32, [], 508),
  (8, 11, .ifCond .eq 12, 14, 20, 0, [], 0),
  (11, 12, .iload_n 2, 1, 0, 2, [], 0),
  (12, 15, .ifCond .lt 8, 14, 20, 2, [], 0),
  (15, 16, .iload_n 2, 1, 0, 2, [], 0),
  (16, 17, .iconst 5, 0, 0, 5, [], 0),
  (17, 20, .if_icmp .le 6, 15, 23, 5, [], 0),
  (20, 22, .ldc 70, 31, (-1000001), 0, [], 288),
  (22, 23, .ireturn, 29, 0, 0, [], 0),
  (23, 24, .aload_n 0, 1, 1, 0, [], 0),
  (24, 27, .getfield 26, 18, 7, 2, [], 252),
  (27, 30, .getfield 268, 18, 3, 0, [], 130),
  (30, 31, .iload_n 1, 1, 0, 1, [], 0),
  (31, 32, .iaload, 20, 0, 0, [], 0),
  (32, 33, .iload_n 2, 1, 0, 2, [], 0),
  (33, 36, .invokestatic 271, 27, 0, 4, [], 777),
  (36, 39, .ifCond .ne 9, 14, 45, 1, [], 0),
  (39, 40, .aload_n 0, 1, 1, 0, [], 0),
  (40, 41, .iconst 3, 0, 0, 3, [], 0),
  (41, 44, .invokevirtual 71, 27, 0, 120, [], 289),
  (44, 45, .ireturn, 29, 0, 0, [], 0),
  (45, 46, .aload_n 0, 1, 1, 0, [], 0),
  (46, 47, .iload_n 1, 1, 0, 1, [], 0),
  (47, 50, .invokevirtual 79, 27, 0, 121, [], 301),
  (50, 51, .ireturn, 29, 0, 0, [], 0)]
/-- PuddingHobs.as(II)I -/
def hm_T115 : hm_X := (yX7_as, prog_1_method_33_code, 3, (some .int), false, 3, [776, 56, 774, 775], hm_P115)
def hm_P116 : List hm_I := [
  (0, 1, .aload_n 0, 1, 1, 0, [], 0),
  (1, 4, .getfield 26, 18, 7, 2, [], 252),
  (4, 5, .iload_n 1, 1, 0, 1, [], 0),
  (5, 8, .invokevirtual 149, 27, 0, 32, [], 508),
  (8, 11, .ifCond .eq 10, 14, 18, 0, [], 0),
  (11, 12, .iload_n 2, 1, 0, 2, [], 0),
  (12, 15, .invokestatic 163, 27, 0, 122, [], 521),
  (15, 18, .ifCond .ne 6, 14, 21, 1, [], 0),
  (18, 20, .ldc 70, 31, (-1000001), 0, [], 288),
  (20, 21, .ireturn, 29, 0, 0, [], 0),
  (21, 22, .aload_n 0, 1, 1, 0, [], 0),
  (22, 25, .getfield 59, 18, 7, 7, [], 257),
  (25, 26, .iload_n 1, 1, 0, 1, [], 0),
  (26, 27, .iload_n 2, 1, 0, 2, [], 0),
  (27, 30, .invokevirtual 274, 27, 0, 5, [], 786),
  (30, 31, .ireturn, 29, 0, 0, [], 0)]
/-- PuddingHobs.ask(II)I -/
def hm_T116 : hm_X := (yX7_ask, prog_1_method_34_code, 3, (some .int), false, 3, [785, 56, 783, 784], hm_P116)
def hm_P117 : List hm_I := [
  (0, 1, .aload_n 0, 1, 1, 0, [], 0),
  (1, 4, .getfield 59, 18, 7, 7, [], 257),
  (4, 5, .iload_n 1, 1, 0, 1, [], 0),
  (5, 8, .invokevirtual 277, 27, 0, 6, [], 810),
  (8, 9, .ireturn, 29, 0, 0, [], 0)]
/-- PuddingHobs.trace(I)I -/
def hm_T117 : hm_X := (yX7_trace, prog_1_method_35_code, 2, (some .int), false, 2, [809, 56, 807, 808], hm_P117)
def hm_P118 : List hm_I := [
  (0, 1, .iload_n 1, 1, 0, 1, [], 0),
  (1, 56, .tableswitch 135 0 9 #[55, 63, 71, 79, 87, 95, 103, 111, 119, 127], 17, 136, 0, [(0, 56), (1, 64), (2, 72), (3, 80), (4, 88), (5, 96), (6, 104), (7, 112), (8, 120), (9, 128)], 0),
  (56, 57, .aload_n 0, 1, 1, 0, [], 0),
  (57, 60, .getfield 10, 18, 7, 0, [], 250),
  (60, 63, .invokevirtual 280, 27, 0, 62, [], 819),
  (63, 64, .ireturn, 29, 0, 0, [], 0),
  (64, 65, .aload_n 0, 1, 1, 0, [], 0),
  (65, 68, .getfield 26, 18, 7, 2, [], 252),
  (68, 71, .getfield 126, 18, 3, 4, [], 143),
  (71, 72, .ireturn, 29, 0, 0, [], 0),
  (72, 73, .aload_n 0, 1, 1, 0, [], 0),
  (73, 76, .getfield 26, 18, 7, 2, [], 252),
  (76, 79, .getfield 137, 18, 3, 7, [], 154),
  (79, 80, .ireturn, 29, 0, 0, [], 0),
  (80, 81, .aload_n 0, 1, 1, 0, [], 0),
  (81, 84, .getfield 26, 18, 7, 2, [], 252),
  (84, 87, .getfield 191, 18, 3, 5, [], 148),
  (87, 88, .ireturn, 29, 0, 0, [], 0),
  (88, 89, .aload_n 0, 1, 1, 0, [], 0),
  (89, 92, .getfield 26, 18, 7, 2, [], 252),
  (92, 95, .getfield 283, 18, 3, 6, [], 152),
  (95, 96, .ireturn, 29, 0, 0, [], 0),
  (96, 97, .aload_n 0, 1, 1, 0, [], 0),
  (97, 100, .getfield 26, 18, 7, 2, [], 252),
  (100, 103, .getfield 146, 18, 3, 9, [], 160),
  (103, 104, .ireturn, 29, 0, 0, [], 0),
  (104, 105, .aload_n 0, 1, 1, 0, [], 0),
  (105, 108, .getfield 26, 18, 7, 2, [], 252),
  (108, 111, .getfield 172, 18, 3, 8, [], 157),
  (111, 112, .ireturn, 29, 0, 0, [], 0),
  (112, 113, .aload_n 0, 1, 1, 0, [], 0),
  (113, 116, .getfield 26, 18, 7, 2, [], 252),
  (116, 119, .getfield 286, 18, 3, 10, [], 162),
  (119, 120, .ireturn, 29, 0, 0, [], 0),
  (120, 121, .aload_n 0, 1, 1, 0, [], 0),
  (121, 124, .getfield 36, 18, 7, 4, [], 254),
  (124, 127, .invokevirtual 197, 27, 0, 3, [], 558),
  (127, 128, .ireturn, 29, 0, 0, [], 0),
  (128, 129, .aload_n 0, 1, 1, 0, [], 0),
  (129, 132, .getfield 19, 18, 7, 1, [], 251),
  (132, 135, .invokevirtual 107, 27, 0, 70, [], 355),
  (135, 136, .ireturn, 29, 0, 0, [], 0),
  (136, 138, .ldc 70, 31, (-1000001), 0, [], 288),
  (138, 139, .ireturn, 29, 0, 0, [], 0)]
/-- PuddingHobs.count(I)I -/
def hm_T118 : hm_X := (yX7_count, prog_1_method_36_code, 2, (some .int), false, 2, [818, 56, 816, 817], hm_P118)
def hm_P119 : List hm_I := [
  (0, 1, .aload_n 0, 1, 1, 0, [], 0),
  (1, 4, .getfield 289, 18, 7, 8, [], 258),
  (4, 5, .ireturn, 29, 0, 0, [], 0)]
/-- PuddingHobs.status()I -/
def hm_T119 : hm_X := (yX7_status, prog_1_method_37_code, 1, (some .int), false, 1, [827, 56, 825, 826], hm_P119)
def hm_P120 : List hm_I := [
  (0, 1, .aload_n 0, 1, 1, 0, [], 0),
  (1, 2, .iload_n 1, 1, 0, 1, [], 0),
  (2, 5, .putfield 289, 19, 7, 8, [], 258),
  (5, 8, .ldc_w 292, 31, (-1000010), 0, [], 293),
  (8, 9, .iload_n 1, 1, 0, 1, [], 0),
  (9, 10, .isub, 4, 0, 1, [], 0),
  (10, 11, .ireturn, 29, 0, 0, [], 0)]
/-- PuddingHobs.found(I)I -/
def hm_T120 : hm_X := (yX7_found, prog_1_method_38_code, 2, (some .int), false, 2, [292, 56, 291, 0], hm_P120)
def hm_P121 : List hm_I := [
  (0, 1, .aload_n 0, 1, 1, 0, [], 0),
  (1, 2, .iconst 0, 0, 0, 0, [], 0),
  (2, 5, .putfield 289, 19, 7, 8, [], 258),
  (5, 6, .iload_n 1, 1, 0, 1, [], 0),
  (6, 7, .ireturn, 29, 0, 0, [], 0)]
/-- PuddingHobs.unfound(I)I -/
def hm_T121 : hm_X := (yX7_unfound, prog_1_method_39_code, 2, (some .int), false, 2, [304, 56, 303, 1], hm_P121)
def hm_P122 : List hm_I := [
  (0, 1, .iload_n 0, 1, 0, 0, [], 0),
  (1, 4, .ifCond .eq 8, 14, 9, 0, [], 0),
  (4, 5, .iload_n 0, 1, 0, 0, [], 0),
  (5, 6, .iconst 1, 0, 0, 1, [], 0),
  (6, 9, .if_icmp .ne 7, 15, 13, 1, [], 0),
  (9, 10, .iconst 1, 0, 0, 1, [], 0),
  (10, 13, .goto 4, 16, 14, 0, [], 0),
  (13, 14, .iconst 0, 0, 0, 0, [], 0),
  (14, 15, .ireturn, 29, 0, 1, [], 0)]
/-- PuddingHobs.isBit(I)Z -/
def hm_T122 : hm_X := (yX7_isBit, prog_1_method_40_code, 1, (some .boolean), true, 1, [523, 56, 522, 0], hm_P122)
def hm_P123 : List hm_I := [
  (0, 1, .iload_n 0, 1, 0, 0, [], 0),
  (1, 2, .iconst 1, 0, 0, 1, [], 0),
  (2, 5, .if_icmp .lt 13, 15, 15, 2, [], 0),
  (5, 6, .iload_n 0, 1, 0, 0, [], 0),
  (6, 8, .bipush 30, 0, 0, 30, [], 0),
  (8, 11, .if_icmp .gt 7, 15, 15, 4, [], 0),
  (11, 12, .iconst 1, 0, 0, 1, [], 0),
  (12, 15, .goto 4, 16, 16, 0, [], 0),
  (15, 16, .iconst 0, 0, 0, 0, [], 0),
  (16, 17, .ireturn, 29, 0, 1, [], 0)]
/-- PuddingHobs.isSpan(I)Z -/
def hm_T123 : hm_X := (yX7_isSpan, prog_1_method_41_code, 1, (some .boolean), true, 1, [626, 56, 625, 0], hm_P123)
def hm_P124 : List hm_I := [
  (0, 1, .iload_n 0, 1, 0, 0, [], 0),
  (1, 2, .iload_n 1, 1, 0, 1, [], 0),
  (2, 5, .if_icmp .lt 12, 15, 14, 2, [], 0),
  (5, 6, .iload_n 0, 1, 0, 0, [], 0),
  (6, 7, .iload_n 2, 1, 0, 2, [], 0),
  (7, 10, .if_icmp .gt 7, 15, 14, 4, [], 0),
  (10, 11, .iconst 1, 0, 0, 1, [], 0),
  (11, 14, .goto 4, 16, 15, 0, [], 0),
  (14, 15, .iconst 0, 0, 0, 0, [], 0),
  (15, 16, .ireturn, 29, 0, 1, [], 0)]
/-- PuddingHobsModel.in(III)Z -/
def hm_T124 : hm_X := (yX8_in, prog_10_method_3_code, 3, (some .boolean), true, 3, [912, 64, 911, 0], hm_P124)
def hm_P125 : List hm_I := [
  (0, 1, .iload_n 0, 1, 0, 0, [], 0),
  (1, 2, .iload_n 1, 1, 0, 1, [], 0),
  (2, 3, .ishr, 4, 0, 7, [], 0),
  (3, 4, .iconst 1, 0, 0, 1, [], 0),
  (4, 5, .iand, 4, 0, 3, [], 0),
  (5, 6, .iconst 1, 0, 0, 1, [], 0),
  (6, 9, .if_icmp .ne 7, 15, 13, 1, [], 0),
  (9, 10, .iconst 1, 0, 0, 1, [], 0),
  (10, 13, .goto 4, 16, 14, 0, [], 0),
  (13, 14, .iconst 0, 0, 0, 0, [], 0),
  (14, 15, .ireturn, 29, 0, 1, [], 0)]
/-- PuddingHobsModel.has(II)Z -/
def hm_T125 : hm_X := (yX8_has, prog_10_method_4_code, 2, (some .boolean), true, 2, [1034, 64, 1033, 0], hm_P125)
def hm_P126 : List hm_I := [
  (0, 1, .iconst 0, 0, 0, 0, [], 0),
  (1, 2, .istore_n 1, 2, 0, 1, [], 0),
  (2, 3, .iconst 0, 0, 0, 0, [], 0),
  (3, 4, .istore_n 2, 2, 0, 2, [], 0),
  (4, 5, .iload_n 2, 1, 0, 2, [], 0),
  (5, 7, .bipush 7, 0, 0, 7, [], 0),
  (7, 10, .if_icmp .ge 17, 15, 24, 3, [], 0),
  (10, 11, .iload_n 1, 1, 0, 1, [], 0),
  (11, 12, .iload_n 0, 1, 0, 0, [], 0),
  (12, 13, .iload_n 2, 1, 0, 2, [], 0),
  (13, 14, .ishr, 4, 0, 7, [], 0),
  (14, 15, .iconst 1, 0, 0, 1, [], 0),
  (15, 16, .iand, 4, 0, 3, [], 0),
  (16, 17, .iadd, 4, 0, 0, [], 0),
  (17, 18, .istore_n 1, 2, 0, 1, [], 0),
  (18, 21, .iinc 2 1, 3, 1, 2, [], 0),
  (21, 24, .goto (-17), 16, 4, 0, [], 0),
  (24, 25, .iload_n 1, 1, 0, 1, [], 0),
  (25, 26, .ireturn, 29, 0, 0, [], 0)]
/-- PuddingHobsModel.ones(I)I -/
def hm_T126 : hm_X := (yX8_ones, prog_10_method_5_code, 3, (some .int), true, 1, [1123, 64, 1122, 0], hm_P126)
def hm_P127 : List hm_I := [
  (0, 1, .iload_n 0, 1, 0, 0, [], 0),
  (1, 2, .iload_n 1, 1, 0, 1, [], 0),
  (2, 5, .if_icmp .ge 7, 15, 9, 3, [], 0),
  (5, 6, .iload_n 0, 1, 0, 0, [], 0),
  (6, 9, .goto 4, 16, 10, 0, [], 0),
  (9, 10, .iload_n 1, 1, 0, 1, [], 0),
  (10, 11, .ireturn, 29, 0, 0, [], 0)]
/-- PuddingHobsModel.lesser(II)I -/
def hm_T127 : hm_X := (yX8_lesser, prog_10_method_6_code, 2, (some .int), true, 2, [1025, 64, 1024, 0], hm_P127)
def hm_P128 : List hm_I := [
  (0, 1, .aload_n 0, 1, 1, 0, [], 0),
  (1, 2, .iload_n 1, 1, 0, 1, [], 0),
  (2, 5, .putfield 48, 19, 8, 4, [], 839),
  (5, 7, .ldc 52, 31, (-1000010), 0, [], 918),
  (7, 8, .iload_n 1, 1, 0, 1, [], 0),
  (8, 9, .isub, 4, 0, 1, [], 0),
  (9, 10, .ireturn, 29, 0, 0, [], 0)]
/-- PuddingHobsModel.found(I)I -/
def hm_T128 : hm_X := (yX8_found, prog_10_method_7_code, 2, (some .int), false, 2, [917, 64, 916, 29], hm_P128)
def hm_P129 : List hm_I := [
  (0, 1, .aload_n 0, 1, 1, 0, [], 0),
  (1, 2, .iconst 0, 0, 0, 0, [], 0),
  (2, 5, .putfield 48, 19, 8, 4, [], 839),
  (5, 6, .iload_n 1, 1, 0, 1, [], 0),
  (6, 7, .ireturn, 29, 0, 0, [], 0)]
/-- PuddingHobsModel.well(I)I -/
def hm_T129 : hm_X := (yX8_well, prog_10_method_8_code, 2, (some .int), false, 2, [922, 64, 921, 30], hm_P129)
def hm_P130 : List hm_I := [
  (0, 1, .iconst 0, 0, 0, 0, [], 0),
  (1, 3, .istore 4, 2, 0, 4, [], 0),
  (3, 5, .iload 4, 1, 0, 4, [], 0),
  (5, 7, .bipush 53, 0, 0, 53, [], 0),
  (7, 10, .if_icmp .ge 21, 15, 28, 3, [], 0),
  (10, 11, .aload_n 2, 1, 1, 2, [], 0),
  (11, 12, .iload_n 3, 1, 0, 3, [], 0),
  (12, 14, .iload 4, 1, 0, 4, [], 0),
  (14, 15, .iadd, 4, 0, 0, [], 0),
  (15, 16, .aload_n 0, 1, 1, 0, [], 0),
  (16, 17, .iload_n 1, 1, 0, 1, [], 0),
  (17, 19, .iload 4, 1, 0, 4, [], 0),
  (19, 20, .iadd, 4, 0, 0, [], 0),
  (20, 21, .iaload, 20, 0, 0, [], 0),
  (21, 22, .iastore, 21, 0, 0, [], 0),
  (22, 25, .iinc 4 1, 3, 1, 4, [], 0),
  (25, 28, .goto (-22), 16, 3, 0, [], 0),
  (28, 29, .return_, 30, 0, 0, [], 0)]
/-- PuddingHobsModel.copies([II[II)V -/
def hm_T130 : hm_X := (yX8_copies, prog_10_method_9_code, 5, none, true, 4, [993, 64, 992, 0], hm_P130)
def hm_P131 : List hm_I := [
  (0, 1, .iload_n 0, 1, 0, 0, [], 0),
  (1, 2, .iconst 0, 0, 0, 0, [], 0),
  (2, 4, .bipush 7, 0, 0, 7, [], 0),
  (4, 7, .invokestatic 53, 27, 0, 124, [], 910),
  (7, 8, .ireturn, 29, 0, 1, [], 0)]
/-- PuddingHobsModel.isRow(I)Z -/
def hm_T131 : hm_X := (yX8_isRow, prog_10_method_10_code, 1, (some .boolean), true, 1, [909, 64, 908, 0], hm_P131)
def hm_P132 : List hm_I := [
  (0, 1, .aload_n 0, 1, 1, 0, [], 0),
  (1, 4, .getfield 7, 18, 8, 0, [], 835),
  (4, 5, .iload_n 1, 1, 0, 1, [], 0),
  (5, 6, .iaload, 20, 0, 0, [], 0),
  (6, 8, .ldc 47, 31, (-1000000), 0, [], 834),
  (8, 11, .if_icmp .ne 7, 15, 15, 1, [], 0),
  (11, 12, .iconst 1, 0, 0, 1, [], 0),
  (12, 15, .goto 4, 16, 16, 0, [], 0),
  (15, 16, .iconst 0, 0, 0, 0, [], 0),
  (16, 17, .ireturn, 29, 0, 1, [], 0)]
/-- PuddingHobsModel.isMissing(I)Z -/
def hm_T132 : hm_X := (yX8_isMissing, prog_10_method_11_code, 2, (some .boolean), false, 2, [930, 64, 929, 31], hm_P132)
def hm_P133 : List hm_I := [
  (0, 1, .iload_n 0, 1, 0, 0, [], 0),
  (1, 4, .ifCond .ne 13, 14, 14, 1, [], 0),
  (4, 5, .iload_n 1, 1, 0, 1, [], 0),
  (5, 7, .bipush 24, 0, 0, 24, [], 0),
  (7, 8, .ishl, 4, 0, 6, [], 0),
  (8, 10, .bipush 24, 0, 0, 24, [], 0),
  (10, 11, .ishr, 4, 0, 7, [], 0),
  (11, 14, .goto 19, 16, 30, 0, [], 0),
  (14, 15, .iload_n 0, 1, 0, 0, [], 0),
  (15, 16, .iconst 1, 0, 0, 1, [], 0),
  (16, 19, .if_icmp .ne 13, 15, 29, 1, [], 0),
  (19, 20, .iload_n 1, 1, 0, 1, [], 0),
  (20, 22, .bipush 16, 0, 0, 16, [], 0),
  (22, 23, .ishl, 4, 0, 6, [], 0),
  (23, 25, .bipush 16, 0, 0, 16, [], 0),
  (25, 26, .ishr, 4, 0, 7, [], 0),
  (26, 29, .goto 4, 16, 30, 0, [], 0),
  (29, 30, .iload_n 1, 1, 0, 1, [], 0),
  (30, 31, .ireturn, 29, 0, 0, [], 0)]
/-- PuddingHobsModel.cut(II)I -/
def hm_T133 : hm_X := (yX8_cut, prog_10_method_12_code, 2, (some .int), true, 2, [933, 64, 932, 0], hm_P133)
def hm_P134 : List hm_I := [
  (0, 1, .iload_n 1, 1, 0, 1, [], 0),
  (1, 4, .invokestatic 57, 27, 0, 131, [], 907),
  (4, 7, .ifCond .eq 18, 14, 22, 0, [], 0),
  (7, 8, .iload_n 2, 1, 0, 2, [], 0),
  (8, 9, .iconst 0, 0, 0, 0, [], 0),
  (9, 10, .iconst 2, 0, 0, 2, [], 0),
  (10, 13, .invokestatic 53, 27, 0, 124, [], 910),
  (13, 16, .ifCond .eq 9, 14, 22, 0, [], 0),
  (16, 17, .iload_n 3, 1, 0, 3, [], 0),
  (17, 19, .bipush 40, 0, 0, 40, [], 0),
  (19, 22, .if_icmp .le 6, 15, 25, 5, [], 0),
  (22, 24, .ldc 61, 31, (-1000001), 0, [], 913),
  (24, 25, .ireturn, 29, 0, 0, [], 0),
  (25, 26, .iload_n 3, 1, 0, 3, [], 0),
  (26, 29, .ifCond .ge 9, 14, 35, 3, [], 0),
  (29, 30, .aload_n 0, 1, 1, 0, [], 0),
  (30, 31, .iconst 4, 0, 0, 4, [], 0),
  (31, 34, .invokevirtual 62, 27, 0, 128, [], 914),
  (34, 35, .ireturn, 29, 0, 0, [], 0),
  (35, 36, .aload_n 0, 1, 1, 0, [], 0),
  (36, 39, .getfield 7, 18, 8, 0, [], 835),
  (39, 40, .iload_n 1, 1, 0, 1, [], 0),
  (40, 41, .iload_n 2, 1, 0, 2, [], 0),
  (41, 42, .iastore, 21, 0, 0, [], 0),
  (42, 43, .aload_n 0, 1, 1, 0, [], 0),
  (43, 46, .getfield 13, 18, 8, 1, [], 836),
  (46, 47, .iload_n 1, 1, 0, 1, [], 0),
  (47, 48, .iload_n 3, 1, 0, 3, [], 0),
  (48, 49, .iastore, 21, 0, 0, [], 0),
  (49, 50, .iconst 0, 0, 0, 0, [], 0),
  (50, 52, .istore 4, 2, 0, 4, [], 0),
  (52, 54, .iload 4, 1, 0, 4, [], 0),
  (54, 56, .bipush 40, 0, 0, 40, [], 0),
  (56, 59, .if_icmp .ge 22, 15, 78, 3, [], 0),
  (59, 60, .aload_n 0, 1, 1, 0, [], 0),
  (60, 63, .getfield 16, 18, 8, 2, [], 837),
  (63, 65, .bipush 40, 0, 0, 40, [], 0),
  (65, 66, .iload_n 1, 1, 0, 1, [], 0),
  (66, 67, .imul, 4, 0, 2, [], 0),
  (67, 69, .iload 4, 1, 0, 4, [], 0),
  (69, 70, .iadd, 4, 0, 0, [], 0),
  (70, 71, .iconst 0, 0, 0, 0, [], 0),
  (71, 72, .iastore, 21, 0, 0, [], 0),
  (72, 75, .iinc 4 1, 3, 1, 4, [], 0),
  (75, 78, .goto (-23), 16, 52, 0, [], 0),
  (78, 79, .aload_n 0, 1, 1, 0, [], 0),
  (79, 80, .iload_n 3, 1, 0, 3, [], 0),
  (80, 83, .invokevirtual 66, 27, 0, 129, [], 919),
  (83, 84, .ireturn, 29, 0, 0, [], 0)]
/-- PuddingHobsModel.row(III)I -/
def hm_T134 : hm_X := (yX8_row, prog_10_method_13_code, 5, (some .int), false, 4, [906, 64, 904, 905], hm_P134)
def hm_P135 : List hm_I := [
  (0, 1, .iload_n 1, 1, 0, 1, [], 0),
  (1, 4, .invokestatic 57, 27, 0, 131, [], 907),
  (4, 7, .ifCond .ne 6, 14, 10, 1, [], 0),
  (7, 9, .ldc 61, 31, (-1000001), 0, [], 913),
  (9, 10, .ireturn, 29, 0, 0, [], 0),
  (10, 11, .aload_n 0, 1, 1, 0, [], 0),
  (11, 12, .iload_n 1, 1, 0, 1, [], 0),
  (12, 15, .invokevirtual 69, 27, 0, 132, [], 927),
  (15, 18, .ifCond .eq 9, 14, 24, 0, [], 0),
  (18, 19, .aload_n 0, 1, 1, 0, [], 0),
  (19, 20, .iconst 1, 0, 0, 1, [], 0),
  (20, 23, .invokevirtual 62, 27, 0, 128, [], 914),
  (23, 24, .ireturn, 29, 0, 0, [], 0),
  (24, 25, .iload_n 2, 1, 0, 2, [], 0),
  (25, 26, .iconst 0, 0, 0, 0, [], 0),
  (26, 27, .aload_n 0, 1, 1, 0, [], 0),
  (27, 30, .getfield 13, 18, 8, 1, [], 836),
  (30, 31, .iload_n 1, 1, 0, 1, [], 0),
  (31, 32, .iaload, 20, 0, 0, [], 0),
  (32, 33, .iconst 1, 0, 0, 1, [], 0),
  (33, 34, .isub, 4, 0, 1, [], 0),
  (34, 37, .invokestatic 53, 27, 0, 124, [], 910),
  (37, 40, .ifCond .ne 9, 14, 46, 1, [], 0),
  (40, 41, .aload_n 0, 1, 1, 0, [], 0),
  (41, 42, .iconst 2, 0, 0, 2, [], 0),
  (42, 45, .invokevirtual 62, 27, 0, 128, [], 914),
  (45, 46, .ireturn, 29, 0, 0, [], 0),
  (46, 47, .aload_n 0, 1, 1, 0, [], 0),
  (47, 50, .getfield 16, 18, 8, 2, [], 837),
  (50, 52, .bipush 40, 0, 0, 40, [], 0),
  (52, 53, .iload_n 1, 1, 0, 1, [], 0),
  (53, 54, .imul, 4, 0, 2, [], 0),
  (54, 55, .iload_n 2, 1, 0, 2, [], 0),
  (55, 56, .iadd, 4, 0, 0, [], 0),
  (56, 57, .aload_n 0, 1, 1, 0, [], 0),
  (57, 60, .getfield 7, 18, 8, 0, [], 835),
  (60, 61, .iload_n 1, 1, 0, 1, [], 0),
  (61, 62, .iaload, 20, 0, 0, [], 0),
  (62, 63, .iload_n 3, 1, 0, 3, [], 0),
  (63, 66, .invokestatic 72, 27, 0, 133, [], 931),
  (66, 67, .iastore, 21, 0, 0, [], 0),
  (67, 68, .aload_n 0, 1, 1, 0, [], 0),
  (68, 69, .aload_n 0, 1, 1, 0, [], 0),
  (69, 72, .getfield 16, 18, 8, 2, [], 837),
  (72, 74, .bipush 40, 0, 0, 40, [], 0),
  (74, 75, .iload_n 1, 1, 0, 1, [], 0),
  (75, 76, .imul, 4, 0, 2, [], 0),
  (76, 77, .iload_n 2, 1, 0, 2, [], 0),
  (77, 78, .iadd, 4, 0, 0, [], 0),
  (78, 79, .iaload, 20, 0, 0, [], 0),
  (79, 82, .invokevirtual 66, 27, 0, 129, [], 919),
  (82, 83, .ireturn, 29, 0, 0, [], 0)]
/-- PuddingHobsModel.set(III)I -/
def hm_T135 : hm_X := (yX8_set, prog_10_method_14_code, 4, (some .int), false, 4, [926, 64, 924, 925], hm_P135)
def hm_P136 : List hm_I := [
  (0, 1, .iload_n 2, 1, 0, 2, [], 0),
  (1, 4, .ifCond .lt 33, 14, 34, 2, [], 0),
  (4, 5, .iload_n 3, 1, 0, 3, [], 0),
  (5, 8, .ifCond .lt 29, 14, 34, 2, [], 0),
  (8, 9, .iload_n 2, 1, 0, 2, [], 0),
  (9, 10, .aload_n 0, 1, 1, 0, [], 0),
  (10, 13, .getfield 13, 18, 8, 1, [], 836),
  (13, 14, .iload_n 1, 1, 0, 1, [], 0),
  (14, 15, .iaload, 20, 0, 0, [], 0),
  (15, 18, .if_icmp .gt 19, 15, 34, 4, [], 0),
  (18, 19, .iload_n 3, 1, 0, 3, [], 0),
  (19, 20, .aload_n 0, 1, 1, 0, [], 0),
  (20, 23, .getfield 13, 18, 8, 1, [], 836),
  (23, 24, .iload_n 1, 1, 0, 1, [], 0),
  (24, 25, .iaload, 20, 0, 0, [], 0),
  (25, 26, .iload_n 2, 1, 0, 2, [], 0),
  (26, 27, .isub, 4, 0, 1, [], 0),
  (27, 30, .if_icmp .gt 7, 15, 34, 4, [], 0),
  (30, 31, .iconst 1, 0, 0, 1, [], 0),
  (31, 34, .goto 4, 16, 35, 0, [], 0),
  (34, 35, .iconst 0, 0, 0, 0, [], 0),
  (35, 36, .ireturn, 29, 0, 1, [], 0)]
/-- PuddingHobsModel.isPart(III)Z -/
def hm_T136 : hm_X := (yX8_isPart, prog_10_method_15_code, 4, (some .boolean), false, 4, [941, 64, 940, 32], hm_P136)
def hm_P137 : List hm_I := [
  (0, 1, .iload_n 1, 1, 0, 1, [], 0),
  (1, 4, .invokestatic 57, 27, 0, 131, [], 907),
  (4, 7, .ifCond .eq 10, 14, 14, 0, [], 0),
  (7, 8, .iload_n 3, 1, 0, 3, [], 0),
  (8, 11, .invokestatic 57, 27, 0, 131, [], 907),
  (11, 14, .ifCond .ne 6, 14, 17, 1, [], 0),
  (14, 16, .ldc 61, 31, (-1000001), 0, [], 913),
  (16, 17, .ireturn, 29, 0, 0, [], 0),
  (17, 18, .aload_n 0, 1, 1, 0, [], 0),
  (18, 19, .iload_n 1, 1, 0, 1, [], 0),
  (19, 22, .invokevirtual 69, 27, 0, 132, [], 927),
  (22, 25, .ifCond .ne 11, 14, 33, 1, [], 0),
  (25, 26, .aload_n 0, 1, 1, 0, [], 0),
  (26, 27, .iload_n 3, 1, 0, 3, [], 0),
  (27, 30, .invokevirtual 69, 27, 0, 132, [], 927),
  (30, 33, .ifCond .eq 9, 14, 39, 0, [], 0),
  (33, 34, .aload_n 0, 1, 1, 0, [], 0),
  (34, 35, .iconst 1, 0, 0, 1, [], 0),
  (35, 38, .invokevirtual 62, 27, 0, 128, [], 914),
  (38, 39, .ireturn, 29, 0, 0, [], 0),
  (39, 40, .aload_n 0, 1, 1, 0, [], 0),
  (40, 43, .getfield 7, 18, 8, 0, [], 835),
  (43, 44, .iload_n 1, 1, 0, 1, [], 0),
  (44, 45, .iaload, 20, 0, 0, [], 0),
  (45, 46, .aload_n 0, 1, 1, 0, [], 0),
  (46, 49, .getfield 7, 18, 8, 0, [], 835),
  (49, 50, .iload_n 3, 1, 0, 3, [], 0),
  (50, 51, .iaload, 20, 0, 0, [], 0),
  (51, 54, .if_icmp .eq 9, 15, 60, 0, [], 0),
  (54, 55, .aload_n 0, 1, 1, 0, [], 0),
  (55, 56, .iconst 5, 0, 0, 5, [], 0),
  (56, 59, .invokevirtual 62, 27, 0, 128, [], 914),
  (59, 60, .ireturn, 29, 0, 0, [], 0),
  (60, 61, .aload_n 0, 1, 1, 0, [], 0),
  (61, 62, .iload_n 1, 1, 0, 1, [], 0),
  (62, 63, .iload_n 2, 1, 0, 2, [], 0),
  (63, 65, .iload 5, 1, 0, 5, [], 0),
  (65, 68, .invokevirtual 76, 27, 0, 136, [], 938),
  (68, 71, .ifCond .eq 15, 14, 83, 0, [], 0),
  (71, 72, .aload_n 0, 1, 1, 0, [], 0),
  (72, 73, .iload_n 3, 1, 0, 3, [], 0),
  (73, 75, .iload 4, 1, 0, 4, [], 0),
  (75, 77, .iload 5, 1, 0, 5, [], 0),
  (77, 80, .invokevirtual 76, 27, 0, 136, [], 938),
  (80, 83, .ifCond .ne 9, 14, 89, 1, [], 0),
  (83, 84, .aload_n 0, 1, 1, 0, [], 0),
  (84, 85, .iconst 2, 0, 0, 2, [], 0),
  (85, 88, .invokevirtual 62, 27, 0, 128, [], 914),
  (88, 89, .ireturn, 29, 0, 0, [], 0),
  (89, 90, .iconst 0, 0, 0, 0, [], 0),
  (90, 92, .istore 6, 2, 0, 6, [], 0),
  (92, 94, .iload 6, 1, 0, 6, [], 0),
  (94, 96, .iload 5, 1, 0, 5, [], 0),
  (96, 99, .if_icmp .ge 30, 15, 126, 3, [], 0),
  (99, 100, .aload_n 0, 1, 1, 0, [], 0),
  (100, 103, .getfield 19, 18, 8, 3, [], 838),
  (103, 105, .iload 6, 1, 0, 6, [], 0),
  (105, 106, .aload_n 0, 1, 1, 0, [], 0),
  (106, 109, .getfield 16, 18, 8, 2, [], 837),
  (109, 111, .bipush 40, 0, 0, 40, [], 0),
  (111, 112, .iload_n 1, 1, 0, 1, [], 0),
  (112, 113, .imul, 4, 0, 2, [], 0),
  (113, 114, .iload_n 2, 1, 0, 2, [], 0),
  (114, 115, .iadd, 4, 0, 0, [], 0),
  (115, 117, .iload 6, 1, 0, 6, [], 0),
  (117, 118, .iadd, 4, 0, 0, [], 0),
  (118, 119, .iaload, 20, 0, 0, [], 0),
  (119, 120, .iastore, 21, 0, 0, [], 0),
  (120, 123, .iinc 6 1, 3, 1, 6, [], 0),
  (123, 126, .goto (-31), 16, 92, 0, [], 0),
  (126, 127, .iconst 0, 0, 0, 0, [], 0),
  (127, 129, .istore 6, 2, 0, 6, [], 0),
  (129, 131, .iload 6, 1, 0, 6, [], 0),
  (131, 133, .iload 5, 1, 0, 5, [], 0),
  (133, 136, .if_icmp .ge 31, 15, 164, 3, [], 0),
  (136, 137, .aload_n 0, 1, 1, 0, [], 0),
  (137, 140, .getfield 16, 18, 8, 2, [], 837),
  (140, 142, .bipush 40, 0, 0, 40, [], 0),
  (142, 143, .iload_n 3, 1, 0, 3, [], 0),
  (143, 144, .imul, 4, 0, 2, [], 0),
  (144, 146, .iload 4, 1, 0, 4, [], 0),
  (146, 147, .iadd, 4, 0, 0, [], 0),
  (147, 149, .iload 6, 1, 0, 6, [], 0),
  (149, 150, .iadd, 4, 0, 0, [], 0),
  (150, 151, .aload_n 0, 1, 1, 0, [], 0),
  (151, 154, .getfield 19, 18, 8, 3, [], 838),
  (154, 156, .iload 6, 1, 0, 6, [], 0),
  (156, 157, .iaload, 20, 0, 0, [], 0),
  (157, 158, .iastore, 21, 0, 0, [], 0),
  (158, 161, .iinc 6 1, 3, 1, 6, [], 0),
  (161, 164, .goto (-32), 16, 129, 0, [], 0),
  (164, 165, .aload_n 0, 1, 1, 0, [], 0),
  (165, 167, .iload 5, 1, 0, 5, [], 0),
  (167, 170, .invokevirtual 66, 27, 0, 129, [], 919),
  (170, 171, .ireturn, 29, 0, 0, [], 0)]
/-- PuddingHobsModel.copy(IIIII)I -/
def hm_T137 : hm_X := (yX8_copy, prog_10_method_16_code, 7, (some .int), false, 6, [937, 64, 935, 936], hm_P137)
def hm_P138 : List hm_I := [
  (0, 1, .iload_n 1, 1, 0, 1, [], 0),
  (1, 4, .invokestatic 57, 27, 0, 131, [], 907),
  (4, 7, .ifCond .ne 6, 14, 10, 1, [], 0),
  (7, 9, .ldc 61, 31, (-1000001), 0, [], 913),
  (9, 10, .ireturn, 29, 0, 0, [], 0),
  (10, 11, .aload_n 0, 1, 1, 0, [], 0),
  (11, 12, .iload_n 1, 1, 0, 1, [], 0),
  (12, 15, .invokevirtual 69, 27, 0, 132, [], 927),
  (15, 18, .ifCond .eq 9, 14, 24, 0, [], 0),
  (18, 19, .aload_n 0, 1, 1, 0, [], 0),
  (19, 20, .iconst 1, 0, 0, 1, [], 0),
  (20, 23, .invokevirtual 62, 27, 0, 128, [], 914),
  (23, 24, .ireturn, 29, 0, 0, [], 0),
  (24, 25, .aload_n 0, 1, 1, 0, [], 0),
  (25, 28, .getfield 7, 18, 8, 0, [], 835),
  (28, 29, .iload_n 1, 1, 0, 1, [], 0),
  (29, 31, .ldc 47, 31, (-1000000), 0, [], 834),
  (31, 32, .iastore, 21, 0, 0, [], 0),
  (32, 33, .aload_n 0, 1, 1, 0, [], 0),
  (33, 34, .aload_n 0, 1, 1, 0, [], 0),
  (34, 37, .getfield 13, 18, 8, 1, [], 836),
  (37, 38, .iload_n 1, 1, 0, 1, [], 0),
  (38, 39, .iaload, 20, 0, 0, [], 0),
  (39, 42, .invokevirtual 66, 27, 0, 129, [], 919),
  (42, 43, .ireturn, 29, 0, 0, [], 0)]
/-- PuddingHobsModel.drop(I)I -/
def hm_T138 : hm_X := (yX8_drop, prog_10_method_17_code, 2, (some .int), false, 2, [945, 64, 943, 944], hm_P138)
def hm_P139 : List hm_I := [
  (0, 1, .iload_n 1, 1, 0, 1, [], 0),
  (1, 2, .iconst 0, 0, 0, 0, [], 0),
  (2, 5, .sipush 255, 0, 0, 255, [], 0),
  (5, 8, .invokestatic 53, 27, 0, 124, [], 910),
  (8, 11, .ifCond .ne 6, 14, 14, 1, [], 0),
  (11, 13, .ldc 61, 31, (-1000001), 0, [], 913),
  (13, 14, .ireturn, 29, 0, 0, [], 0),
  (14, 15, .aload_n 0, 1, 1, 0, [], 0),
  (15, 18, .getfield 79, 18, 8, 6, [], 841),
  (18, 20, .bipush 90, 0, 0, 90, [], 0),
  (20, 23, .if_icmp .ne 6, 15, 26, 1, [], 0),
  (23, 25, .ldc 82, 31, (-1000003), 0, [], 950),
  (25, 26, .ireturn, 29, 0, 0, [], 0),
  (26, 27, .aload_n 0, 1, 1, 0, [], 0),
  (27, 30, .getfield 22, 18, 8, 5, [], 840),
  (30, 31, .aload_n 0, 1, 1, 0, [], 0),
  (31, 34, .getfield 79, 18, 8, 6, [], 841),
  (34, 35, .iload_n 1, 1, 0, 1, [], 0),
  (35, 36, .iastore, 21, 0, 0, [], 0),
  (36, 37, .aload_n 0, 1, 1, 0, [], 0),
  (37, 38, .dup, 24, 0, 0, [], 0),
  (38, 41, .getfield 79, 18, 8, 6, [], 841),
  (41, 42, .iconst 1, 0, 0, 1, [], 0),
  (42, 43, .iadd, 4, 0, 0, [], 0),
  (43, 46, .putfield 79, 19, 8, 6, [], 841),
  (46, 47, .aload_n 0, 1, 1, 0, [], 0),
  (47, 50, .getfield 79, 18, 8, 6, [], 841),
  (50, 51, .ireturn, 29, 0, 0, [], 0)]
/-- PuddingHobsModel.feed(I)I -/
def hm_T139 : hm_X := (yX8_feed, prog_10_method_18_code, 2, (some .int), false, 2, [949, 64, 947, 948], hm_P139)
def hm_P140 : List hm_I := [
  (0, 1, .iload_n 1, 1, 0, 1, [], 0),
  (1, 2, .aload_n 0, 1, 1, 0, [], 0),
  (2, 5, .getfield 79, 18, 8, 6, [], 841),
  (5, 8, .if_icmp .ge 12, 15, 17, 3, [], 0),
  (8, 9, .aload_n 0, 1, 1, 0, [], 0),
  (9, 12, .getfield 22, 18, 8, 5, [], 840),
  (12, 13, .iload_n 1, 1, 0, 1, [], 0),
  (13, 14, .iaload, 20, 0, 0, [], 0),
  (14, 17, .goto 4, 16, 18, 0, [], 0),
  (17, 18, .iconst (-1), 31, (-1), 0, [], 0),
  (18, 19, .ireturn, 29, 0, 0, [], 0)]
/-- PuddingHobsModel.byteAt(I)I -/
def hm_T140 : hm_X := (yX8_byteAt, prog_10_method_19_code, 2, (some .int), false, 2, [962, 64, 961, 34], hm_P140)
def hm_P141 : List hm_I := [
  (0, 1, .aload_n 0, 1, 1, 0, [], 0),
  (1, 2, .aload_n 0, 1, 1, 0, [], 0),
  (2, 5, .getfield 83, 18, 8, 9, [], 844),
  (5, 8, .putfield 86, 19, 8, 10, [], 845),
  (8, 9, .aload_n 0, 1, 1, 0, [], 0),
  (9, 10, .aload_n 0, 1, 1, 0, [], 0),
  (10, 13, .getfield 83, 18, 8, 9, [], 844),
  (13, 16, .invokevirtual 89, 27, 0, 140, [], 959),
  (16, 17, .istore_n 1, 2, 0, 1, [], 0),
  (17, 18, .aload_n 0, 1, 1, 0, [], 0),
  (18, 19, .iload_n 1, 1, 0, 1, [], 0),
  (19, 22, .putfield 92, 19, 8, 12, [], 847),
  (22, 23, .iload_n 1, 1, 0, 1, [], 0),
  (23, 25, .bipush 48, 0, 0, 48, [], 0),
  (25, 27, .bipush 57, 0, 0, 57, [], 0),
  (27, 30, .invokestatic 53, 27, 0, 124, [], 910),
  (30, 33, .ifCond .eq 105, 14, 135, 0, [], 0),
  (33, 34, .aload_n 0, 1, 1, 0, [], 0),
  (34, 35, .iconst 0, 0, 0, 0, [], 0),
  (35, 38, .putfield 92, 19, 8, 12, [], 847),
  (38, 39, .aload_n 0, 1, 1, 0, [], 0),
  (39, 40, .aload_n 0, 1, 1, 0, [], 0),
  (40, 43, .getfield 83, 18, 8, 9, [], 844),
  (43, 46, .invokevirtual 89, 27, 0, 140, [], 959),
  (46, 48, .bipush 48, 0, 0, 48, [], 0),
  (48, 50, .bipush 57, 0, 0, 57, [], 0),
  (50, 53, .invokestatic 53, 27, 0, 124, [], 910),
  (53, 56, .ifCond .eq 59, 14, 112, 0, [], 0),
  (56, 57, .aload_n 0, 1, 1, 0, [], 0),
  (57, 58, .aload_n 0, 1, 1, 0, [], 0),
  (58, 61, .getfield 83, 18, 8, 9, [], 844),
  (61, 62, .aload_n 0, 1, 1, 0, [], 0),
  (62, 65, .getfield 86, 18, 8, 10, [], 845),
  (65, 66, .isub, 4, 0, 1, [], 0),
  (66, 67, .iconst 2, 0, 0, 2, [], 0),
  (67, 70, .if_icmp .ge 25, 15, 92, 3, [], 0),
  (70, 72, .bipush 10, 0, 0, 10, [], 0),
  (72, 73, .aload_n 0, 1, 1, 0, [], 0),
  (73, 76, .getfield 92, 18, 8, 12, [], 847),
  (76, 77, .imul, 4, 0, 2, [], 0),
  (77, 78, .aload_n 0, 1, 1, 0, [], 0),
  (78, 79, .aload_n 0, 1, 1, 0, [], 0),
  (79, 82, .getfield 83, 18, 8, 9, [], 844),
  (82, 85, .invokevirtual 89, 27, 0, 140, [], 959),
  (85, 86, .iadd, 4, 0, 0, [], 0),
  (86, 88, .bipush 48, 0, 0, 48, [], 0),
  (88, 89, .isub, 4, 0, 1, [], 0),
  (89, 92, .goto 7, 16, 96, 0, [], 0),
  (92, 93, .aload_n 0, 1, 1, 0, [], 0),
  (93, 96, .getfield 92, 18, 8, 12, [], 847),
  (96, 99, .putfield 92, 19, 8, 12, [], 847),
  (99, 100, .aload_n 0, 1, 1, 0, [], 0),
  (100, 101, .dup, 24, 0, 0, [], 0),
  (101, 104, .getfield 83, 18, 8, 9, [], 844),
  (104, 105, .iconst 1, 0, 0, 1, [], 0),
  (105, 106, .iadd, 4, 0, 0, [], 0),
  (106, 109, .putfield 83, 19, 8, 9, [], 844),
  (109, 112, .goto (-71), 16, 38, 0, [], 0),
  (112, 113, .aload_n 0, 1, 1, 0, [], 0),
  (113, 114, .aload_n 0, 1, 1, 0, [], 0),
  (114, 117, .getfield 83, 18, 8, 9, [], 844),
  (117, 118, .aload_n 0, 1, 1, 0, [], 0),
  (118, 121, .getfield 86, 18, 8, 10, [], 845),
  (121, 122, .isub, 4, 0, 1, [], 0),
  (122, 123, .iconst 3, 0, 0, 3, [], 0),
  (123, 126, .if_icmp .ge 7, 15, 130, 3, [], 0),
  (126, 127, .iconst 2, 0, 0, 2, [], 0),
  (127, 130, .goto 4, 16, 131, 0, [], 0),
  (130, 131, .iconst 5, 0, 0, 5, [], 0),
  (131, 134, .putfield 95, 19, 8, 11, [], 846),
  (134, 135, .return_, 30, 0, 0, [], 0),
  (135, 136, .aload_n 0, 1, 1, 0, [], 0),
  (136, 137, .iload_n 1, 1, 0, 1, [], 0),
  (137, 140, .ifCond .ge 7, 14, 144, 3, [], 0),
  (140, 141, .iconst 0, 0, 0, 0, [], 0),
  (141, 144, .goto 39, 16, 180, 0, [], 0),
  (144, 145, .iload_n 1, 1, 0, 1, [], 0),
  (145, 147, .bipush 97, 0, 0, 97, [], 0),
  (147, 149, .bipush 122, 0, 0, 122, [], 0),
  (149, 152, .invokestatic 53, 27, 0, 124, [], 910),
  (152, 155, .ifCond .eq 7, 14, 159, 0, [], 0),
  (155, 156, .iconst 1, 0, 0, 1, [], 0),
  (156, 159, .goto 24, 16, 180, 0, [], 0),
  (159, 160, .iload_n 1, 1, 0, 1, [], 0),
  (160, 162, .bipush 44, 0, 0, 44, [], 0),
  (162, 165, .if_icmp .ne 7, 15, 169, 1, [], 0),
  (165, 166, .iconst 3, 0, 0, 3, [], 0),
  (166, 169, .goto 14, 16, 180, 0, [], 0),
  (169, 170, .iload_n 1, 1, 0, 1, [], 0),
  (170, 172, .bipush 59, 0, 0, 59, [], 0),
  (172, 175, .if_icmp .ne 7, 15, 179, 1, [], 0),
  (175, 176, .iconst 4, 0, 0, 4, [], 0),
  (176, 179, .goto 4, 16, 180, 0, [], 0),
  (179, 180, .iconst 5, 0, 0, 5, [], 0),
  (180, 183, .putfield 95, 19, 8, 11, [], 846),
  (183, 184, .aload_n 0, 1, 1, 0, [], 0),
  (184, 185, .dup, 24, 0, 0, [], 0),
  (185, 188, .getfield 83, 18, 8, 9, [], 844),
  (188, 189, .aload_n 0, 1, 1, 0, [], 0),
  (189, 192, .getfield 95, 18, 8, 11, [], 846),
  (192, 195, .ifCond .ne 7, 14, 199, 1, [], 0),
  (195, 196, .iconst 0, 0, 0, 0, [], 0),
  (196, 199, .goto 4, 16, 200, 0, [], 0),
  (199, 200, .iconst 1, 0, 0, 1, [], 0),
  (200, 201, .iadd, 4, 0, 0, [], 0),
  (201, 204, .putfield 83, 19, 8, 9, [], 844),
  (204, 205, .return_, 30, 0, 0, [], 0)]
/-- PuddingHobsModel.advances()V -/
def hm_T141 : hm_X := (yX8_advances, prog_10_method_20_code, 2, none, false, 1, [958, 64, 957, 33], hm_P141)
def hm_P142 : List hm_I := [
  (0, 1, .aload_n 0, 1, 1, 0, [], 0),
  (1, 4, .getfield 98, 18, 8, 8, [], 843),
  (4, 7, .ifCond .ge 7, 14, 11, 3, [], 0),
  (7, 8, .iconst 1, 0, 0, 1, [], 0),
  (8, 11, .goto 4, 16, 12, 0, [], 0),
  (11, 12, .iconst 0, 0, 0, 0, [], 0),
  (12, 13, .ireturn, 29, 0, 1, [], 0)]
/-- PuddingHobsModel.isWell()Z -/
def hm_T142 : hm_X := (yX8_isWell, prog_10_method_21_code, 1, (some .boolean), false, 1, [970, 64, 969, 36], hm_P142)
def hm_P143 : List hm_I := [
  (0, 1, .aload_n 0, 1, 1, 0, [], 0),
  (1, 4, .invokevirtual 101, 27, 0, 142, [], 967),
  (4, 7, .ifCond .ne 5, 14, 9, 1, [], 0),
  (7, 8, .iconst 0, 0, 0, 0, [], 0),
  (8, 9, .ireturn, 29, 0, 0, [], 0),
  (9, 10, .iload_n 1, 1, 0, 1, [], 0),
  (10, 13, .ifCond .ne 18, 14, 28, 1, [], 0),
  (13, 14, .aload_n 0, 1, 1, 0, [], 0),
  (14, 15, .aload_n 0, 1, 1, 0, [], 0),
  (15, 18, .getfield 86, 18, 8, 10, [], 845),
  (18, 21, .putfield 98, 19, 8, 8, [], 843),
  (21, 22, .aload_n 0, 1, 1, 0, [], 0),
  (22, 23, .iload_n 2, 1, 0, 2, [], 0),
  (23, 26, .putfield 105, 19, 8, 7, [], 842),
  (26, 27, .iconst 0, 0, 0, 0, [], 0),
  (27, 28, .ireturn, 29, 0, 0, [], 0),
  (28, 29, .aload_n 0, 1, 1, 0, [], 0),
  (29, 32, .getfield 92, 18, 8, 12, [], 847),
  (32, 33, .istore_n 3, 2, 0, 3, [], 0),
  (33, 34, .aload_n 0, 1, 1, 0, [], 0),
  (34, 37, .invokevirtual 108, 27, 0, 141, [], 955),
  (37, 38, .iload_n 3, 1, 0, 3, [], 0),
  (38, 39, .ireturn, 29, 0, 0, [], 0)]
/-- PuddingHobsModel.takes(ZI)I -/
def hm_T143 : hm_X := (yX8_takes, prog_10_method_22_code, 4, (some .int), false, 3, [966, 64, 965, 35], hm_P143)
def hm_P144 : List hm_I := [
  (0, 1, .aload_n 0, 1, 1, 0, [], 0),
  (1, 4, .invokevirtual 101, 27, 0, 142, [], 967),
  (4, 7, .ifCond .eq 18, 14, 22, 0, [], 0),
  (7, 8, .aload_n 0, 1, 1, 0, [], 0),
  (8, 11, .getfield 95, 18, 8, 11, [], 846),
  (11, 12, .iconst 2, 0, 0, 2, [], 0),
  (12, 15, .if_icmp .eq 10, 15, 22, 0, [], 0),
  (15, 16, .aload_n 0, 1, 1, 0, [], 0),
  (16, 17, .iconst 0, 0, 0, 0, [], 0),
  (17, 18, .iconst 1, 0, 0, 1, [], 0),
  (18, 21, .invokevirtual 111, 27, 0, 143, [], 963),
  (21, 22, .ireturn, 29, 0, 0, [], 0),
  (22, 23, .aload_n 0, 1, 1, 0, [], 0),
  (23, 24, .aload_n 0, 1, 1, 0, [], 0),
  (24, 27, .getfield 92, 18, 8, 12, [], 847),
  (27, 28, .iload_n 1, 1, 0, 1, [], 0),
  (28, 29, .iload_n 2, 1, 0, 2, [], 0),
  (29, 32, .invokestatic 53, 27, 0, 124, [], 910),
  (32, 33, .iconst 2, 0, 0, 2, [], 0),
  (33, 36, .invokevirtual 111, 27, 0, 143, [], 963),
  (36, 37, .ireturn, 29, 0, 0, [], 0)]
/-- PuddingHobsModel.figure(II)I -/
def hm_T144 : hm_X := (yX8_figure, prog_10_method_23_code, 3, (some .int), false, 3, [974, 64, 973, 37], hm_P144)
def hm_P145 : List hm_I := [
  (0, 1, .iload_n 0, 1, 0, 0, [], 0),
  (1, 3, .bipush 112, 0, 0, 112, [], 0),
  (3, 6, .if_icmp .ne 7, 15, 10, 1, [], 0),
  (6, 7, .iconst 1, 0, 0, 1, [], 0),
  (7, 10, .goto 44, 16, 51, 0, [], 0),
  (10, 11, .iload_n 0, 1, 0, 0, [], 0),
  (11, 13, .bipush 115, 0, 0, 115, [], 0),
  (13, 16, .if_icmp .ne 7, 15, 20, 1, [], 0),
  (16, 17, .iconst 2, 0, 0, 2, [], 0),
  (17, 20, .goto 34, 16, 51, 0, [], 0),
  (20, 21, .iload_n 0, 1, 0, 0, [], 0),
  (21, 23, .bipush 108, 0, 0, 108, [], 0),
  (23, 26, .if_icmp .ne 7, 15, 30, 1, [], 0),
  (26, 27, .iconst 3, 0, 0, 3, [], 0),
  (27, 30, .goto 24, 16, 51, 0, [], 0),
  (30, 31, .iload_n 0, 1, 0, 0, [], 0),
  (31, 33, .bipush 98, 0, 0, 98, [], 0),
  (33, 36, .if_icmp .ne 7, 15, 40, 1, [], 0),
  (36, 37, .iconst 4, 0, 0, 4, [], 0),
  (37, 40, .goto 14, 16, 51, 0, [], 0),
  (40, 41, .iload_n 0, 1, 0, 0, [], 0),
  (41, 43, .bipush 114, 0, 0, 114, [], 0),
  (43, 46, .if_icmp .ne 7, 15, 50, 1, [], 0),
  (46, 47, .iconst 5, 0, 0, 5, [], 0),
  (47, 50, .goto 4, 16, 51, 0, [], 0),
  (50, 51, .iconst 0, 0, 0, 0, [], 0),
  (51, 52, .ireturn, 29, 0, 0, [], 0)]
/-- PuddingHobsModel.kindOf(I)I -/
def hm_T145 : hm_X := (yX8_kindOf, prog_10_method_24_code, 1, (some .int), true, 1, [981, 64, 980, 0], hm_P145)
def hm_P146 : List hm_I := [
  (0, 1, .aload_n 0, 1, 1, 0, [], 0),
  (1, 2, .aload_n 0, 1, 1, 0, [], 0),
  (2, 5, .getfield 95, 18, 8, 11, [], 846),
  (5, 6, .iconst 3, 0, 0, 3, [], 0),
  (6, 9, .if_icmp .ne 7, 15, 13, 1, [], 0),
  (9, 10, .iconst 1, 0, 0, 1, [], 0),
  (10, 13, .goto 4, 16, 14, 0, [], 0),
  (13, 14, .iconst 0, 0, 0, 0, [], 0),
  (14, 15, .iconst 1, 0, 0, 1, [], 0),
  (15, 18, .invokevirtual 111, 27, 0, 143, [], 963),
  (18, 19, .pop, 25, 0, 0, [], 0),
  (19, 20, .aload_n 0, 1, 1, 0, [], 0),
  (20, 21, .iload_n 1, 1, 0, 1, [], 0),
  (21, 22, .iload_n 2, 1, 0, 2, [], 0),
  (22, 25, .invokevirtual 115, 27, 0, 144, [], 971),
  (25, 26, .ireturn, 29, 0, 0, [], 0)]
/-- PuddingHobsModel.follows(II)I -/
def hm_T146 : hm_X := (yX8_follows, prog_10_method_25_code, 3, (some .int), false, 3, [978, 64, 977, 38], hm_P146)
def hm_P147 : List hm_I := [
  (0, 1, .aload_n 0, 1, 1, 0, [], 0),
  (1, 4, .getfield 92, 18, 8, 12, [], 847),
  (4, 7, .invokestatic 118, 27, 0, 145, [], 979),
  (7, 8, .istore_n 1, 2, 0, 1, [], 0),
  (8, 9, .aload_n 0, 1, 1, 0, [], 0),
  (9, 10, .aload_n 0, 1, 1, 0, [], 0),
  (10, 13, .getfield 28, 18, 8, 14, [], 849),
  (13, 14, .iconst 2, 0, 0, 2, [], 0),
  (14, 15, .iaload, 20, 0, 0, [], 0),
  (15, 17, .bipush 7, 0, 0, 7, [], 0),
  (17, 20, .if_icmp .ge 7, 15, 24, 3, [], 0),
  (20, 21, .iconst 1, 0, 0, 1, [], 0),
  (21, 24, .goto 4, 16, 25, 0, [], 0),
  (24, 25, .iconst 0, 0, 0, 0, [], 0),
  (25, 26, .iconst 3, 0, 0, 3, [], 0),
  (26, 29, .invokevirtual 111, 27, 0, 143, [], 963),
  (29, 30, .pop, 25, 0, 0, [], 0),
  (30, 31, .iconst 4, 0, 0, 4, [], 0),
  (31, 33, .bipush 7, 0, 0, 7, [], 0),
  (33, 34, .aload_n 0, 1, 1, 0, [], 0),
  (34, 37, .getfield 28, 18, 8, 14, [], 849),
  (37, 38, .iconst 2, 0, 0, 2, [], 0),
  (38, 39, .iaload, 20, 0, 0, [], 0),
  (39, 41, .bipush 7, 0, 0, 7, [], 0),
  (41, 44, .if_icmp .ge 12, 15, 53, 3, [], 0),
  (44, 45, .aload_n 0, 1, 1, 0, [], 0),
  (45, 48, .getfield 28, 18, 8, 14, [], 849),
  (48, 49, .iconst 2, 0, 0, 2, [], 0),
  (49, 50, .iaload, 20, 0, 0, [], 0),
  (50, 53, .goto 4, 16, 54, 0, [], 0),
  (53, 54, .iconst 0, 0, 0, 0, [], 0),
  (54, 55, .imul, 4, 0, 2, [], 0),
  (55, 56, .iadd, 4, 0, 0, [], 0),
  (56, 57, .istore_n 2, 2, 0, 2, [], 0),
  (57, 58, .aload_n 0, 1, 1, 0, [], 0),
  (58, 59, .iconst 0, 0, 0, 0, [], 0),
  (59, 61, .bipush 20, 0, 0, 20, [], 0),
  (61, 64, .invokevirtual 115, 27, 0, 144, [], 971),
  (64, 65, .istore_n 3, 2, 0, 3, [], 0),
  (65, 66, .aload_n 0, 1, 1, 0, [], 0),
  (66, 67, .iconst 0, 0, 0, 0, [], 0),
  (67, 69, .bipush 30, 0, 0, 30, [], 0),
  (69, 72, .invokevirtual 121, 27, 0, 146, [], 975),
  (72, 74, .istore 4, 2, 0, 4, [], 0),
  (74, 75, .aload_n 0, 1, 1, 0, [], 0),
  (75, 76, .aload_n 0, 1, 1, 0, [], 0),
  (76, 79, .getfield 95, 18, 8, 11, [], 846),
  (79, 80, .iconst 4, 0, 0, 4, [], 0),
  (80, 83, .if_icmp .ne 7, 15, 87, 1, [], 0),
  (83, 84, .iconst 1, 0, 0, 1, [], 0),
  (84, 87, .goto 4, 16, 88, 0, [], 0),
  (87, 88, .iconst 0, 0, 0, 0, [], 0),
  (88, 89, .iconst 1, 0, 0, 1, [], 0),
  (89, 92, .invokevirtual 111, 27, 0, 143, [], 963),
  (92, 93, .pop, 25, 0, 0, [], 0),
  (93, 94, .aload_n 0, 1, 1, 0, [], 0),
  (94, 97, .invokevirtual 101, 27, 0, 142, [], 967),
  (97, 100, .ifCond .eq 62, 14, 159, 0, [], 0),
  (100, 101, .aload_n 0, 1, 1, 0, [], 0),
  (101, 104, .getfield 28, 18, 8, 14, [], 849),
  (104, 105, .iload_n 2, 1, 0, 2, [], 0),
  (105, 106, .iload_n 1, 1, 0, 1, [], 0),
  (106, 107, .iastore, 21, 0, 0, [], 0),
  (107, 108, .aload_n 0, 1, 1, 0, [], 0),
  (108, 111, .getfield 28, 18, 8, 14, [], 849),
  (111, 112, .iload_n 2, 1, 0, 2, [], 0),
  (112, 113, .iconst 1, 0, 0, 1, [], 0),
  (113, 114, .iadd, 4, 0, 0, [], 0),
  (114, 115, .iload_n 3, 1, 0, 3, [], 0),
  (115, 116, .iastore, 21, 0, 0, [], 0),
  (116, 117, .aload_n 0, 1, 1, 0, [], 0),
  (117, 120, .getfield 28, 18, 8, 14, [], 849),
  (120, 121, .iload_n 2, 1, 0, 2, [], 0),
  (121, 122, .iconst 2, 0, 0, 2, [], 0),
  (122, 123, .iadd, 4, 0, 0, [], 0),
  (123, 125, .iload 4, 1, 0, 4, [], 0),
  (125, 126, .iastore, 21, 0, 0, [], 0),
  (126, 127, .aload_n 0, 1, 1, 0, [], 0),
  (127, 130, .getfield 28, 18, 8, 14, [], 849),
  (130, 131, .iload_n 2, 1, 0, 2, [], 0),
  (131, 132, .iconst 3, 0, 0, 3, [], 0),
  (132, 133, .iadd, 4, 0, 0, [], 0),
  (133, 134, .aload_n 0, 1, 1, 0, [], 0),
  (134, 137, .getfield 28, 18, 8, 14, [], 849),
  (137, 138, .iconst 2, 0, 0, 2, [], 0),
  (138, 139, .iaload, 20, 0, 0, [], 0),
  (139, 140, .iastore, 21, 0, 0, [], 0),
  (140, 141, .aload_n 0, 1, 1, 0, [], 0),
  (141, 144, .getfield 28, 18, 8, 14, [], 849),
  (144, 145, .iload_n 2, 1, 0, 2, [], 0),
  (145, 146, .iconst 4, 0, 0, 4, [], 0),
  (146, 147, .iadd, 4, 0, 0, [], 0),
  (147, 148, .iconst 1, 0, 0, 1, [], 0),
  (148, 149, .iastore, 21, 0, 0, [], 0),
  (149, 150, .aload_n 0, 1, 1, 0, [], 0),
  (150, 153, .getfield 28, 18, 8, 14, [], 849),
  (153, 154, .iconst 2, 0, 0, 2, [], 0),
  (154, 155, .dup2, 26, 0, 0, [], 0),
  (155, 156, .iaload, 20, 0, 0, [], 0),
  (156, 157, .iconst 1, 0, 0, 1, [], 0),
  (157, 158, .iadd, 4, 0, 0, [], 0),
  (158, 159, .iastore, 21, 0, 0, [], 0),
  (159, 160, .return_, 30, 0, 0, [], 0)]
/-- PuddingHobsModel.readsBasin()V -/
def hm_T147 : hm_X := (yX8_readsBasin, prog_10_method_26_code, 5, none, false, 1, [989, 64, 988, 40], hm_P147)
def hm_P148 : List hm_I := [
  (0, 1, .aload_n 0, 1, 1, 0, [], 0),
  (1, 4, .invokevirtual 101, 27, 0, 142, [], 967),
  (4, 7, .ifCond .eq 14, 14, 18, 0, [], 0),
  (7, 8, .iload_n 1, 1, 0, 1, [], 0),
  (8, 11, .ifCond .ne 10, 14, 18, 1, [], 0),
  (11, 12, .aload_n 0, 1, 1, 0, [], 0),
  (12, 13, .iconst 0, 0, 0, 0, [], 0),
  (13, 14, .iconst 1, 0, 0, 1, [], 0),
  (14, 17, .invokevirtual 111, 27, 0, 143, [], 963),
  (17, 18, .pop, 25, 0, 0, [], 0),
  (18, 19, .return_, 30, 0, 0, [], 0)]
/-- PuddingHobsModel.must(Z)V -/
def hm_T148 : hm_X := (yX8_must, prog_10_method_27_code, 2, none, false, 2, [985, 64, 984, 39], hm_P148)
def hm_P149 : List hm_I := [
  (0, 1, .iconst 0, 0, 0, 0, [], 0),
  (1, 2, .istore_n 1, 2, 0, 1, [], 0),
  (2, 3, .iload_n 1, 1, 0, 1, [], 0),
  (3, 5, .bipush 53, 0, 0, 53, [], 0),
  (5, 8, .if_icmp .ge 16, 15, 21, 3, [], 0),
  (8, 9, .aload_n 0, 1, 1, 0, [], 0),
  (9, 12, .getfield 28, 18, 8, 14, [], 849),
  (12, 13, .iload_n 1, 1, 0, 1, [], 0),
  (13, 14, .iconst 0, 0, 0, 0, [], 0),
  (14, 15, .iastore, 21, 0, 0, [], 0),
  (15, 18, .iinc 1 1, 3, 1, 1, [], 0),
  (18, 21, .goto (-16), 16, 2, 0, [], 0),
  (21, 22, .aload_n 0, 1, 1, 0, [], 0),
  (22, 23, .iconst 0, 0, 0, 0, [], 0),
  (23, 26, .putfield 83, 19, 8, 9, [], 844),
  (26, 27, .aload_n 0, 1, 1, 0, [], 0),
  (27, 28, .iconst (-1), 31, (-1), 0, [], 0),
  (28, 31, .putfield 98, 19, 8, 8, [], 843),
  (31, 32, .aload_n 0, 1, 1, 0, [], 0),
  (32, 35, .invokevirtual 108, 27, 0, 141, [], 955),
  (35, 36, .aload_n 0, 1, 1, 0, [], 0),
  (36, 37, .aload_n 0, 1, 1, 0, [], 0),
  (37, 40, .getfield 95, 18, 8, 11, [], 846),
  (40, 41, .iconst 1, 0, 0, 1, [], 0),
  (41, 44, .if_icmp .ne 16, 15, 57, 1, [], 0),
  (44, 45, .aload_n 0, 1, 1, 0, [], 0),
  (45, 48, .getfield 92, 18, 8, 12, [], 847),
  (48, 50, .bipush 107, 0, 0, 107, [], 0),
  (50, 53, .if_icmp .ne 7, 15, 57, 1, [], 0),
  (53, 54, .iconst 1, 0, 0, 1, [], 0),
  (54, 57, .goto 4, 16, 58, 0, [], 0),
  (57, 58, .iconst 0, 0, 0, 0, [], 0),
  (58, 59, .iconst 1, 0, 0, 1, [], 0),
  (59, 62, .invokevirtual 111, 27, 0, 143, [], 963),
  (62, 63, .pop, 25, 0, 0, [], 0),
  (63, 64, .aload_n 0, 1, 1, 0, [], 0),
  (64, 67, .getfield 28, 18, 8, 14, [], 849),
  (67, 68, .iconst 0, 0, 0, 0, [], 0),
  (68, 69, .aload_n 0, 1, 1, 0, [], 0),
  (69, 70, .iconst 0, 0, 0, 0, [], 0),
  (70, 72, .bipush 9, 0, 0, 9, [], 0),
  (72, 75, .invokevirtual 115, 27, 0, 144, [], 971),
  (75, 76, .iastore, 21, 0, 0, [], 0),
  (76, 77, .aload_n 0, 1, 1, 0, [], 0),
  (77, 80, .getfield 28, 18, 8, 14, [], 849),
  (80, 81, .iconst 1, 0, 0, 1, [], 0),
  (81, 82, .aload_n 0, 1, 1, 0, [], 0),
  (82, 83, .iconst 5, 0, 0, 5, [], 0),
  (83, 85, .bipush 60, 0, 0, 60, [], 0),
  (85, 88, .invokevirtual 121, 27, 0, 146, [], 975),
  (88, 89, .iastore, 21, 0, 0, [], 0),
  (89, 90, .aload_n 0, 1, 1, 0, [], 0),
  (90, 91, .aload_n 0, 1, 1, 0, [], 0),
  (91, 94, .getfield 95, 18, 8, 11, [], 846),
  (94, 95, .iconst 4, 0, 0, 4, [], 0),
  (95, 98, .if_icmp .ne 7, 15, 102, 1, [], 0),
  (98, 99, .iconst 1, 0, 0, 1, [], 0),
  (99, 102, .goto 4, 16, 103, 0, [], 0),
  (102, 103, .iconst 0, 0, 0, 0, [], 0),
  (103, 104, .iconst 1, 0, 0, 1, [], 0),
  (104, 107, .invokevirtual 111, 27, 0, 143, [], 963),
  (107, 108, .pop, 25, 0, 0, [], 0),
  (108, 109, .aload_n 0, 1, 1, 0, [], 0),
  (109, 110, .aload_n 0, 1, 1, 0, [], 0),
  (110, 113, .getfield 95, 18, 8, 11, [], 846),
  (113, 114, .iconst 1, 0, 0, 1, [], 0),
  (114, 117, .if_icmp .ne 17, 15, 131, 1, [], 0),
  (117, 118, .aload_n 0, 1, 1, 0, [], 0),
  (118, 121, .getfield 92, 18, 8, 12, [], 847),
  (121, 124, .invokestatic 118, 27, 0, 145, [], 979),
  (124, 127, .ifCond .le 7, 14, 131, 5, [], 0),
  (127, 128, .iconst 1, 0, 0, 1, [], 0),
  (128, 131, .goto 4, 16, 132, 0, [], 0),
  (131, 132, .iconst 0, 0, 0, 0, [], 0),
  (132, 135, .invokevirtual 124, 27, 0, 148, [], 982),
  (135, 136, .aload_n 0, 1, 1, 0, [], 0),
  (136, 139, .invokevirtual 101, 27, 0, 142, [], 967),
  (139, 142, .ifCond .eq 28, 14, 167, 0, [], 0),
  (142, 143, .aload_n 0, 1, 1, 0, [], 0),
  (143, 146, .getfield 95, 18, 8, 11, [], 846),
  (146, 147, .iconst 1, 0, 0, 1, [], 0),
  (147, 150, .if_icmp .ne 20, 15, 167, 1, [], 0),
  (150, 151, .aload_n 0, 1, 1, 0, [], 0),
  (151, 154, .getfield 92, 18, 8, 12, [], 847),
  (154, 157, .invokestatic 118, 27, 0, 145, [], 979),
  (157, 160, .ifCond .le 10, 14, 167, 5, [], 0),
  (160, 161, .aload_n 0, 1, 1, 0, [], 0),
  (161, 164, .invokevirtual 128, 27, 0, 147, [], 986),
  (164, 167, .goto (-29), 16, 135, 0, [], 0),
  (167, 168, .aload_n 0, 1, 1, 0, [], 0),
  (168, 169, .aload_n 0, 1, 1, 0, [], 0),
  (169, 172, .getfield 95, 18, 8, 11, [], 846),
  (172, 175, .ifCond .ne 7, 14, 179, 1, [], 0),
  (175, 176, .iconst 1, 0, 0, 1, [], 0),
  (176, 179, .goto 4, 16, 180, 0, [], 0),
  (179, 180, .iconst 0, 0, 0, 0, [], 0),
  (180, 183, .invokevirtual 124, 27, 0, 148, [], 982),
  (183, 184, .aload_n 0, 1, 1, 0, [], 0),
  (184, 185, .iconst 0, 0, 0, 0, [], 0),
  (185, 188, .putfield 79, 19, 8, 6, [], 841),
  (188, 189, .aload_n 0, 1, 1, 0, [], 0),
  (189, 192, .invokevirtual 101, 27, 0, 142, [], 967),
  (192, 195, .ifCond .ne 11, 14, 203, 1, [], 0),
  (195, 197, .ldc 131, 31, (-1000100), 0, [], 990),
  (197, 198, .aload_n 0, 1, 1, 0, [], 0),
  (198, 201, .getfield 98, 18, 8, 8, [], 843),
  (201, 202, .isub, 4, 0, 1, [], 0),
  (202, 203, .ireturn, 29, 0, 0, [], 0),
  (203, 204, .aload_n 0, 1, 1, 0, [], 0),
  (204, 207, .getfield 28, 18, 8, 14, [], 849),
  (207, 208, .iconst 0, 0, 0, 0, [], 0),
  (208, 209, .aload_n 0, 1, 1, 0, [], 0),
  (209, 212, .getfield 25, 18, 8, 13, [], 848),
  (212, 213, .iconst 0, 0, 0, 0, [], 0),
  (213, 216, .invokestatic 132, 27, 0, 130, [], 991),
  (216, 217, .aload_n 0, 1, 1, 0, [], 0),
  (217, 218, .iconst 0, 0, 0, 0, [], 0),
  (218, 221, .putfield 136, 19, 8, 17, [], 852),
  (221, 222, .aload_n 0, 1, 1, 0, [], 0),
  (222, 225, .getfield 25, 18, 8, 13, [], 848),
  (225, 226, .iconst 2, 0, 0, 2, [], 0),
  (226, 227, .iaload, 20, 0, 0, [], 0),
  (227, 228, .ireturn, 29, 0, 0, [], 0)]
/-- PuddingHobsModel.hob()I -/
def hm_T149 : hm_X := (yX8_hob, prog_10_method_28_code, 2, (some .int), false, 1, [954, 64, 952, 953], hm_P149)
def hm_P150 : List hm_I := [
  (0, 1, .aload_n 0, 1, 1, 0, [], 0),
  (1, 4, .getfield 105, 18, 8, 7, [], 842),
  (4, 5, .ireturn, 29, 0, 0, [], 0)]
/-- PuddingHobsModel.fault()I -/
def hm_T150 : hm_X := (yX8_fault, prog_10_method_29_code, 1, (some .int), false, 1, [997, 64, 995, 996], hm_P150)
def hm_P151 : List hm_I := [
  (0, 1, .aload_n 0, 1, 1, 0, [], 0),
  (1, 4, .getfield 25, 18, 8, 13, [], 848),
  (4, 5, .iconst 1, 0, 0, 1, [], 0),
  (5, 6, .iaload, 20, 0, 0, [], 0),
  (6, 9, .ifCond .le 7, 14, 13, 5, [], 0),
  (9, 10, .iconst 1, 0, 0, 1, [], 0),
  (10, 13, .goto 4, 16, 14, 0, [], 0),
  (13, 14, .iconst 0, 0, 0, 0, [], 0),
  (14, 15, .ireturn, 29, 0, 1, [], 0)]
/-- PuddingHobsModel.isHob()Z -/
def hm_T151 : hm_X := (yX8_isHob, prog_10_method_30_code, 1, (some .boolean), false, 1, [1005, 64, 1004, 41], hm_P151)
def hm_P152 : List hm_I := [
  (0, 1, .iload_n 1, 1, 0, 1, [], 0),
  (1, 2, .iconst 0, 0, 0, 0, [], 0),
  (2, 3, .aload_n 0, 1, 1, 0, [], 0),
  (3, 6, .getfield 25, 18, 8, 13, [], 848),
  (6, 7, .iconst 2, 0, 0, 2, [], 0),
  (7, 8, .iaload, 20, 0, 0, [], 0),
  (8, 9, .iconst 1, 0, 0, 1, [], 0),
  (9, 10, .isub, 4, 0, 1, [], 0),
  (10, 13, .invokestatic 53, 27, 0, 124, [], 910),
  (13, 14, .ireturn, 29, 0, 1, [], 0)]
/-- PuddingHobsModel.isBasin(I)Z -/
def hm_T152 : hm_X := (yX8_isBasin, prog_10_method_31_code, 2, (some .boolean), false, 2, [1051, 64, 1050, 43], hm_P152)
def hm_P153 : List hm_I := [
  (0, 1, .aload_n 0, 1, 1, 0, [], 0),
  (1, 4, .getfield 25, 18, 8, 13, [], 848),
  (4, 5, .iconst 4, 0, 0, 4, [], 0),
  (5, 7, .bipush 7, 0, 0, 7, [], 0),
  (7, 8, .iload_n 1, 1, 0, 1, [], 0),
  (8, 9, .imul, 4, 0, 2, [], 0),
  (9, 10, .iadd, 4, 0, 0, [], 0),
  (10, 11, .iconst 5, 0, 0, 5, [], 0),
  (11, 12, .iadd, 4, 0, 0, [], 0),
  (12, 13, .iaload, 20, 0, 0, [], 0),
  (13, 14, .iconst 1, 0, 0, 1, [], 0),
  (14, 17, .if_icmp .ne 7, 15, 21, 1, [], 0),
  (17, 18, .iconst 1, 0, 0, 1, [], 0),
  (18, 21, .goto 4, 16, 22, 0, [], 0),
  (21, 22, .iconst 0, 0, 0, 0, [], 0),
  (22, 23, .ireturn, 29, 0, 1, [], 0)]
/-- PuddingHobsModel.isBurst(I)Z -/
def hm_T153 : hm_X := (yX8_isBurst, prog_10_method_32_code, 2, (some .boolean), false, 2, [1055, 64, 1054, 44], hm_P153)
def hm_P154 : List hm_I := [
  (0, 1, .iconst 4, 0, 0, 4, [], 0),
  (1, 3, .bipush 7, 0, 0, 7, [], 0),
  (3, 4, .iload_n 1, 1, 0, 1, [], 0),
  (4, 5, .imul, 4, 0, 2, [], 0),
  (5, 6, .iadd, 4, 0, 0, [], 0),
  (6, 7, .istore_n 2, 2, 0, 2, [], 0),
  (7, 8, .aload_n 0, 1, 1, 0, [], 0),
  (8, 9, .iconst 0, 0, 0, 0, [], 0),
  (9, 10, .iaload, 20, 0, 0, [], 0),
  (10, 11, .aload_n 0, 1, 1, 0, [], 0),
  (11, 12, .iload_n 2, 1, 0, 2, [], 0),
  (12, 13, .iconst 3, 0, 0, 3, [], 0),
  (13, 14, .iadd, 4, 0, 0, [], 0),
  (14, 15, .iaload, 20, 0, 0, [], 0),
  (15, 16, .isub, 4, 0, 1, [], 0),
  (16, 17, .istore_n 3, 2, 0, 3, [], 0),
  (17, 18, .aload_n 0, 1, 1, 0, [], 0),
  (18, 19, .iload_n 2, 1, 0, 2, [], 0),
  (19, 20, .iconst 4, 0, 0, 4, [], 0),
  (20, 21, .iadd, 4, 0, 0, [], 0),
  (21, 22, .iaload, 20, 0, 0, [], 0),
  (22, 23, .iconst 1, 0, 0, 1, [], 0),
  (23, 26, .if_icmp .ne 11, 15, 34, 1, [], 0),
  (26, 27, .iload_n 3, 1, 0, 3, [], 0),
  (27, 30, .ifCond .le 7, 14, 34, 5, [], 0),
  (30, 31, .iload_n 3, 1, 0, 3, [], 0),
  (31, 34, .goto 4, 16, 35, 0, [], 0),
  (34, 35, .iconst 0, 0, 0, 0, [], 0),
  (35, 36, .ireturn, 29, 0, 0, [], 0)]
/-- PuddingHobsModel.glow([II)I -/
def hm_T154 : hm_X := (yX8_glow, prog_10_method_33_code, 4, (some .int), true, 2, [1019, 64, 1018, 0], hm_P154)
def hm_P155 : List hm_I := [
  (0, 1, .iconst 4, 0, 0, 4, [], 0),
  (1, 3, .bipush 7, 0, 0, 7, [], 0),
  (3, 4, .iload_n 1, 1, 0, 1, [], 0),
  (4, 5, .imul, 4, 0, 2, [], 0),
  (5, 6, .iadd, 4, 0, 0, [], 0),
  (6, 7, .istore_n 2, 2, 0, 2, [], 0),
  (7, 8, .aload_n 0, 1, 1, 0, [], 0),
  (8, 9, .iload_n 1, 1, 0, 1, [], 0),
  (9, 12, .invokestatic 139, 27, 0, 154, [], 1017),
  (12, 13, .istore_n 3, 2, 0, 3, [], 0),
  (13, 14, .aload_n 0, 1, 1, 0, [], 0),
  (14, 15, .iload_n 2, 1, 0, 2, [], 0),
  (15, 16, .iconst 5, 0, 0, 5, [], 0),
  (16, 17, .iadd, 4, 0, 0, [], 0),
  (17, 18, .iaload, 20, 0, 0, [], 0),
  (18, 19, .iconst 1, 0, 0, 1, [], 0),
  (19, 22, .if_icmp .ne 5, 15, 24, 1, [], 0),
  (22, 23, .iconst 0, 0, 0, 0, [], 0),
  (23, 24, .ireturn, 29, 0, 0, [], 0),
  (24, 25, .aload_n 0, 1, 1, 0, [], 0),
  (25, 26, .iload_n 2, 1, 0, 2, [], 0),
  (26, 27, .iaload, 20, 0, 0, [], 0),
  (27, 56, .tableswitch 69 1 4 #[29, 31, 49, 53], 17, 96, 0, [(1, 56), (2, 58), (3, 76), (4, 80)], 0),
  (56, 57, .iload_n 3, 1, 0, 3, [], 0),
  (57, 58, .ireturn, 29, 0, 0, [], 0),
  (58, 59, .iload_n 3, 1, 0, 3, [], 0),
  (59, 62, .ifCond .le 15, 14, 74, 5, [], 0),
  (62, 63, .iload_n 3, 1, 0, 3, [], 0),
  (63, 64, .aload_n 0, 1, 1, 0, [], 0),
  (64, 65, .iload_n 2, 1, 0, 2, [], 0),
  (65, 66, .iconst 1, 0, 0, 1, [], 0),
  (66, 67, .iadd, 4, 0, 0, [], 0),
  (67, 68, .iaload, 20, 0, 0, [], 0),
  (68, 69, .iconst 4, 0, 0, 4, [], 0),
  (69, 70, .idiv, 5, 0, 0, [], 0),
  (70, 71, .iadd, 4, 0, 0, [], 0),
  (71, 74, .goto 4, 16, 75, 0, [], 0),
  (74, 75, .iconst 0, 0, 0, 0, [], 0),
  (75, 76, .ireturn, 29, 0, 0, [], 0),
  (76, 77, .iload_n 3, 1, 0, 3, [], 0),
  (77, 78, .iconst 2, 0, 0, 2, [], 0),
  (78, 79, .idiv, 5, 0, 0, [], 0),
  (79, 80, .ireturn, 29, 0, 0, [], 0),
  (80, 81, .aload_n 0, 1, 1, 0, [], 0),
  (81, 82, .iload_n 2, 1, 0, 2, [], 0),
  (82, 84, .bipush 6, 0, 0, 6, [], 0),
  (84, 85, .iadd, 4, 0, 0, [], 0),
  (85, 86, .iaload, 20, 0, 0, [], 0),
  (86, 87, .iconst 1, 0, 0, 1, [], 0),
  (87, 90, .if_icmp .ne 7, 15, 94, 1, [], 0),
  (90, 91, .iload_n 3, 1, 0, 3, [], 0),
  (91, 94, .goto 4, 16, 95, 0, [], 0),
  (94, 95, .iconst 0, 0, 0, 0, [], 0),
  (95, 96, .ireturn, 29, 0, 0, [], 0),
  (96, 97, .aload_n 0, 1, 1, 0, [], 0),
  (97, 98, .iload_n 2, 1, 0, 2, [], 0),
  (98, 100, .bipush 6, 0, 0, 6, [], 0),
  (100, 101, .iadd, 4, 0, 0, [], 0),
  (101, 102, .iaload, 20, 0, 0, [], 0),
  (102, 103, .iconst 1, 0, 0, 1, [], 0),
  (103, 106, .if_icmp .ne 9, 15, 112, 1, [], 0),
  (106, 107, .iconst 2, 0, 0, 2, [], 0),
  (107, 108, .iload_n 3, 1, 0, 3, [], 0),
  (108, 109, .imul, 4, 0, 2, [], 0),
  (109, 112, .goto 4, 16, 113, 0, [], 0),
  (112, 113, .iconst 0, 0, 0, 0, [], 0),
  (113, 114, .ireturn, 29, 0, 0, [], 0)]
/-- PuddingHobsModel.swelling([II)I -/
def hm_T155 : hm_X := (yX8_swelling, prog_10_method_34_code, 4, (some .int), true, 2, [1016, 64, 1015, 0], hm_P155)
def hm_P156 : List hm_I := [
  (0, 1, .iconst 0, 0, 0, 0, [], 0),
  (1, 2, .istore_n 2, 2, 0, 2, [], 0),
  (2, 3, .iconst 0, 0, 0, 0, [], 0),
  (3, 4, .istore_n 3, 2, 0, 3, [], 0),
  (4, 5, .iload_n 3, 1, 0, 3, [], 0),
  (5, 6, .aload_n 0, 1, 1, 0, [], 0),
  (6, 7, .iconst 2, 0, 0, 2, [], 0),
  (7, 8, .iaload, 20, 0, 0, [], 0),
  (8, 11, .if_icmp .ge 24, 15, 32, 3, [], 0),
  (11, 12, .iload_n 2, 1, 0, 2, [], 0),
  (12, 13, .aload_n 0, 1, 1, 0, [], 0),
  (13, 14, .iconst 4, 0, 0, 4, [], 0),
  (14, 16, .bipush 7, 0, 0, 7, [], 0),
  (16, 17, .iload_n 3, 1, 0, 3, [], 0),
  (17, 18, .imul, 4, 0, 2, [], 0),
  (18, 19, .iadd, 4, 0, 0, [], 0),
  (19, 20, .iload_n 1, 1, 0, 1, [], 0),
  (20, 21, .iadd, 4, 0, 0, [], 0),
  (21, 22, .iaload, 20, 0, 0, [], 0),
  (22, 23, .iload_n 3, 1, 0, 3, [], 0),
  (23, 24, .ishl, 4, 0, 6, [], 0),
  (24, 25, .ior, 4, 0, 4, [], 0),
  (25, 26, .istore_n 2, 2, 0, 2, [], 0),
  (26, 29, .iinc 3 1, 3, 1, 3, [], 0),
  (29, 32, .goto (-25), 16, 4, 0, [], 0),
  (32, 33, .iload_n 2, 1, 0, 2, [], 0),
  (33, 34, .ireturn, 29, 0, 0, [], 0)]
/-- PuddingHobsModel.areSo([II)I -/
def hm_T156 : hm_X := (yX8_areSo, prog_10_method_35_code, 4, (some .int), true, 2, [1043, 64, 1042, 0], hm_P156)
def hm_P157 : List hm_I := [
  (0, 1, .iconst 0, 0, 0, 0, [], 0),
  (1, 2, .istore_n 1, 2, 0, 1, [], 0),
  (2, 3, .iconst 0, 0, 0, 0, [], 0),
  (3, 4, .istore_n 2, 2, 0, 2, [], 0),
  (4, 5, .iload_n 2, 1, 0, 2, [], 0),
  (5, 6, .aload_n 0, 1, 1, 0, [], 0),
  (6, 7, .iconst 2, 0, 0, 2, [], 0),
  (7, 8, .iaload, 20, 0, 0, [], 0),
  (8, 11, .if_icmp .ge 45, 15, 53, 3, [], 0),
  (11, 12, .iconst 4, 0, 0, 4, [], 0),
  (12, 14, .bipush 7, 0, 0, 7, [], 0),
  (14, 15, .iload_n 2, 1, 0, 2, [], 0),
  (15, 16, .imul, 4, 0, 2, [], 0),
  (16, 17, .iadd, 4, 0, 0, [], 0),
  (17, 18, .istore_n 3, 2, 0, 3, [], 0),
  (18, 19, .iload_n 1, 1, 0, 1, [], 0),
  (19, 20, .aload_n 0, 1, 1, 0, [], 0),
  (20, 21, .iload_n 3, 1, 0, 3, [], 0),
  (21, 22, .iconst 5, 0, 0, 5, [], 0),
  (22, 23, .iadd, 4, 0, 0, [], 0),
  (23, 24, .iaload, 20, 0, 0, [], 0),
  (24, 27, .ifCond .ne 20, 14, 44, 1, [], 0),
  (27, 28, .aload_n 0, 1, 1, 0, [], 0),
  (28, 29, .iload_n 3, 1, 0, 3, [], 0),
  (29, 30, .iconst 2, 0, 0, 2, [], 0),
  (30, 31, .iadd, 4, 0, 0, [], 0),
  (31, 32, .iaload, 20, 0, 0, [], 0),
  (32, 33, .aload_n 0, 1, 1, 0, [], 0),
  (33, 34, .iconst 1, 0, 0, 1, [], 0),
  (34, 35, .iaload, 20, 0, 0, [], 0),
  (35, 38, .if_icmp .le 9, 15, 44, 5, [], 0),
  (38, 39, .iconst 1, 0, 0, 1, [], 0),
  (39, 40, .iload_n 2, 1, 0, 2, [], 0),
  (40, 41, .ishl, 4, 0, 6, [], 0),
  (41, 44, .goto 4, 16, 45, 0, [], 0),
  (44, 45, .iconst 0, 0, 0, 0, [], 0),
  (45, 46, .ior, 4, 0, 4, [], 0),
  (46, 47, .istore_n 1, 2, 0, 1, [], 0),
  (47, 50, .iinc 2 1, 3, 1, 2, [], 0),
  (50, 53, .goto (-46), 16, 4, 0, [], 0),
  (53, 54, .iload_n 1, 1, 0, 1, [], 0),
  (54, 55, .ireturn, 29, 0, 0, [], 0)]
/-- PuddingHobsModel.ripe([I)I -/
def hm_T157 : hm_X := (yX8_ripe, prog_10_method_36_code, 4, (some .int), true, 1, [1028, 64, 1027, 0], hm_P157)
def hm_P158 : List hm_I := [
  (0, 1, .iconst 0, 0, 0, 0, [], 0),
  (1, 2, .istore_n 2, 2, 0, 2, [], 0),
  (2, 3, .iload_n 2, 1, 0, 2, [], 0),
  (3, 4, .aload_n 0, 1, 1, 0, [], 0),
  (4, 5, .iconst 2, 0, 0, 2, [], 0),
  (5, 6, .iaload, 20, 0, 0, [], 0),
  (6, 9, .if_icmp .ge 25, 15, 31, 3, [], 0),
  (9, 10, .aload_n 0, 1, 1, 0, [], 0),
  (10, 11, .iconst 4, 0, 0, 4, [], 0),
  (11, 13, .bipush 7, 0, 0, 7, [], 0),
  (13, 14, .iload_n 2, 1, 0, 2, [], 0),
  (14, 15, .imul, 4, 0, 2, [], 0),
  (15, 16, .iadd, 4, 0, 0, [], 0),
  (16, 17, .iconst 3, 0, 0, 3, [], 0),
  (17, 18, .iadd, 4, 0, 0, [], 0),
  (18, 19, .iaload, 20, 0, 0, [], 0),
  (19, 20, .iload_n 1, 1, 0, 1, [], 0),
  (20, 23, .if_icmp .ne 5, 15, 25, 1, [], 0),
  (23, 24, .iload_n 2, 1, 0, 2, [], 0),
  (24, 25, .ireturn, 29, 0, 0, [], 0),
  (25, 28, .iinc 2 1, 3, 1, 2, [], 0),
  (28, 31, .goto (-26), 16, 2, 0, [], 0),
  (31, 33, .ldc 47, 31, (-1000000), 0, [], 834),
  (33, 34, .ireturn, 29, 0, 0, [], 0)]
/-- PuddingHobsModel.inPlace([II)I -/
def hm_T158 : hm_X := (yX8_inPlace, prog_10_method_37_code, 3, (some .int), true, 2, [1040, 64, 1039, 0], hm_P158)
def hm_P159 : List hm_I := [
  (0, 1, .aload_n 0, 1, 1, 0, [], 0),
  (1, 2, .iload_n 2, 1, 0, 2, [], 0),
  (2, 5, .invokestatic 143, 27, 0, 158, [], 1038),
  (5, 6, .istore_n 3, 2, 0, 3, [], 0),
  (6, 7, .iload_n 3, 1, 0, 3, [], 0),
  (7, 9, .ldc 47, 31, (-1000000), 0, [], 834),
  (9, 12, .if_icmp .eq 15, 15, 24, 0, [], 0),
  (12, 13, .iload_n 1, 1, 0, 1, [], 0),
  (13, 14, .iload_n 3, 1, 0, 3, [], 0),
  (14, 17, .invokestatic 146, 27, 0, 125, [], 1032),
  (17, 20, .ifCond .eq 7, 14, 24, 0, [], 0),
  (20, 21, .iconst 1, 0, 0, 1, [], 0),
  (21, 24, .goto 4, 16, 25, 0, [], 0),
  (24, 25, .iconst 0, 0, 0, 0, [], 0),
  (25, 26, .ireturn, 29, 0, 1, [], 0)]
/-- PuddingHobsModel.isOf([III)Z -/
def hm_T159 : hm_X := (yX8_isOf, prog_10_method_38_code, 4, (some .boolean), true, 3, [1037, 64, 1036, 0], hm_P159)
def hm_P160 : List hm_I := [
  (0, 1, .aload_n 0, 1, 1, 0, [], 0),
  (1, 2, .iconst 4, 0, 0, 4, [], 0),
  (2, 4, .bipush 7, 0, 0, 7, [], 0),
  (4, 5, .iload_n 1, 1, 0, 1, [], 0),
  (5, 6, .imul, 4, 0, 2, [], 0),
  (6, 7, .iadd, 4, 0, 0, [], 0),
  (7, 8, .iconst 2, 0, 0, 2, [], 0),
  (8, 9, .iadd, 4, 0, 0, [], 0),
  (9, 11, .bipush 99, 0, 0, 99, [], 0),
  (11, 12, .aload_n 0, 1, 1, 0, [], 0),
  (12, 13, .iconst 4, 0, 0, 4, [], 0),
  (13, 15, .bipush 7, 0, 0, 7, [], 0),
  (15, 16, .iload_n 1, 1, 0, 1, [], 0),
  (16, 17, .imul, 4, 0, 2, [], 0),
  (17, 18, .iadd, 4, 0, 0, [], 0),
  (18, 19, .iconst 2, 0, 0, 2, [], 0),
  (19, 20, .iadd, 4, 0, 0, [], 0),
  (20, 21, .iaload, 20, 0, 0, [], 0),
  (21, 22, .iload_n 2, 1, 0, 2, [], 0),
  (22, 23, .iadd, 4, 0, 0, [], 0),
  (23, 26, .invokestatic 150, 27, 0, 127, [], 1023),
  (26, 27, .iastore, 21, 0, 0, [], 0),
  (27, 28, .return_, 30, 0, 0, [], 0)]
/-- PuddingHobsModel.swells([III)V -/
def hm_T160 : hm_X := (yX8_swells, prog_10_method_39_code, 3, none, true, 3, [1022, 64, 1021, 0], hm_P160)
def hm_P161 : List hm_I := [
  (0, 1, .iconst 0, 0, 0, 0, [], 0),
  (1, 2, .istore_n 2, 2, 0, 2, [], 0),
  (2, 3, .iload_n 2, 1, 0, 2, [], 0),
  (3, 4, .aload_n 0, 1, 1, 0, [], 0),
  (4, 5, .iconst 2, 0, 0, 2, [], 0),
  (5, 6, .iaload, 20, 0, 0, [], 0),
  (6, 9, .if_icmp .ge 87, 15, 93, 3, [], 0),
  (9, 10, .iconst 4, 0, 0, 4, [], 0),
  (10, 12, .bipush 7, 0, 0, 7, [], 0),
  (12, 13, .iload_n 2, 1, 0, 2, [], 0),
  (13, 14, .imul, 4, 0, 2, [], 0),
  (14, 15, .iadd, 4, 0, 0, [], 0),
  (15, 16, .istore_n 3, 2, 0, 3, [], 0),
  (16, 17, .iload_n 1, 1, 0, 1, [], 0),
  (17, 18, .iload_n 2, 1, 0, 2, [], 0),
  (18, 21, .invokestatic 146, 27, 0, 125, [], 1032),
  (21, 24, .ifCond .eq 12, 14, 33, 0, [], 0),
  (24, 25, .aload_n 0, 1, 1, 0, [], 0),
  (25, 26, .iload_n 3, 1, 0, 3, [], 0),
  (26, 27, .iconst 5, 0, 0, 5, [], 0),
  (27, 28, .iadd, 4, 0, 0, [], 0),
  (28, 29, .iconst 1, 0, 0, 1, [], 0),
  (29, 30, .iastore, 21, 0, 0, [], 0),
  (30, 33, .goto 57, 16, 87, 0, [], 0),
  (33, 34, .aload_n 0, 1, 1, 0, [], 0),
  (34, 35, .iload_n 3, 1, 0, 3, [], 0),
  (35, 36, .iconst 5, 0, 0, 5, [], 0),
  (36, 37, .iadd, 4, 0, 0, [], 0),
  (37, 38, .iaload, 20, 0, 0, [], 0),
  (38, 41, .ifCond .ne 49, 14, 87, 1, [], 0),
  (41, 42, .aload_n 0, 1, 1, 0, [], 0),
  (42, 43, .iload_n 2, 1, 0, 2, [], 0),
  (43, 44, .aload_n 0, 1, 1, 0, [], 0),
  (44, 45, .iload_n 1, 1, 0, 1, [], 0),
  (45, 46, .aload_n 0, 1, 1, 0, [], 0),
  (46, 47, .iload_n 3, 1, 0, 3, [], 0),
  (47, 48, .iconst 3, 0, 0, 3, [], 0),
  (48, 49, .iadd, 4, 0, 0, [], 0),
  (49, 50, .iaload, 20, 0, 0, [], 0),
  (50, 51, .iconst 1, 0, 0, 1, [], 0),
  (51, 52, .isub, 4, 0, 1, [], 0),
  (52, 55, .invokestatic 153, 27, 0, 159, [], 1035),
  (55, 58, .ifCond .eq 7, 14, 62, 0, [], 0),
  (58, 59, .iconst 3, 0, 0, 3, [], 0),
  (59, 62, .goto 4, 16, 63, 0, [], 0),
  (62, 63, .iconst 0, 0, 0, 0, [], 0),
  (63, 64, .aload_n 0, 1, 1, 0, [], 0),
  (64, 65, .iload_n 1, 1, 0, 1, [], 0),
  (65, 66, .aload_n 0, 1, 1, 0, [], 0),
  (66, 67, .iload_n 3, 1, 0, 3, [], 0),
  (67, 68, .iconst 3, 0, 0, 3, [], 0),
  (68, 69, .iadd, 4, 0, 0, [], 0),
  (69, 70, .iaload, 20, 0, 0, [], 0),
  (70, 71, .iconst 1, 0, 0, 1, [], 0),
  (71, 72, .iadd, 4, 0, 0, [], 0),
  (72, 75, .invokestatic 153, 27, 0, 159, [], 1035),
  (75, 78, .ifCond .eq 7, 14, 82, 0, [], 0),
  (78, 79, .iconst 3, 0, 0, 3, [], 0),
  (79, 82, .goto 4, 16, 83, 0, [], 0),
  (82, 83, .iconst 0, 0, 0, 0, [], 0),
  (83, 84, .iadd, 4, 0, 0, [], 0),
  (84, 87, .invokestatic 157, 27, 0, 160, [], 1020),
  (87, 90, .iinc 2 1, 3, 1, 2, [], 0),
  (90, 93, .goto (-88), 16, 2, 0, [], 0),
  (93, 94, .return_, 30, 0, 0, [], 0)]
/-- PuddingHobsModel.bursts([II)V -/
def hm_T161 : hm_X := (yX8_bursts, prog_10_method_40_code, 4, none, true, 2, [1031, 64, 1030, 0], hm_P161)
def hm_P162 : List hm_I := [
  (0, 1, .iconst 0, 0, 0, 0, [], 0),
  (1, 2, .istore_n 1, 2, 0, 1, [], 0),
  (2, 3, .iload_n 1, 1, 0, 1, [], 0),
  (3, 4, .aload_n 0, 1, 1, 0, [], 0),
  (4, 5, .iconst 2, 0, 0, 2, [], 0),
  (5, 6, .iaload, 20, 0, 0, [], 0),
  (6, 9, .if_icmp .ge 44, 15, 50, 3, [], 0),
  (9, 10, .aload_n 0, 1, 1, 0, [], 0),
  (10, 11, .iconst 4, 0, 0, 4, [], 0),
  (11, 13, .bipush 7, 0, 0, 7, [], 0),
  (13, 14, .iload_n 1, 1, 0, 1, [], 0),
  (14, 15, .imul, 4, 0, 2, [], 0),
  (15, 16, .iadd, 4, 0, 0, [], 0),
  (16, 17, .iconst 5, 0, 0, 5, [], 0),
  (17, 18, .iadd, 4, 0, 0, [], 0),
  (18, 19, .iaload, 20, 0, 0, [], 0),
  (19, 22, .ifCond .ne 13, 14, 32, 1, [], 0),
  (22, 23, .aload_n 0, 1, 1, 0, [], 0),
  (23, 24, .iload_n 1, 1, 0, 1, [], 0),
  (24, 25, .aload_n 0, 1, 1, 0, [], 0),
  (25, 26, .iload_n 1, 1, 0, 1, [], 0),
  (26, 29, .invokestatic 161, 27, 0, 155, [], 1014),
  (29, 32, .invokestatic 157, 27, 0, 160, [], 1020),
  (32, 33, .aload_n 0, 1, 1, 0, [], 0),
  (33, 34, .iconst 4, 0, 0, 4, [], 0),
  (34, 36, .bipush 7, 0, 0, 7, [], 0),
  (36, 37, .iload_n 1, 1, 0, 1, [], 0),
  (37, 38, .imul, 4, 0, 2, [], 0),
  (38, 39, .iadd, 4, 0, 0, [], 0),
  (39, 41, .bipush 6, 0, 0, 6, [], 0),
  (41, 42, .iadd, 4, 0, 0, [], 0),
  (42, 43, .iconst 0, 0, 0, 0, [], 0),
  (43, 44, .iastore, 21, 0, 0, [], 0),
  (44, 47, .iinc 1 1, 3, 1, 1, [], 0),
  (47, 50, .goto (-45), 16, 2, 0, [], 0),
  (50, 51, .aload_n 0, 1, 1, 0, [], 0),
  (51, 54, .invokestatic 164, 27, 0, 157, [], 1026),
  (54, 55, .istore_n 1, 2, 0, 1, [], 0),
  (55, 56, .iload_n 1, 1, 0, 1, [], 0),
  (56, 59, .ifCond .eq 16, 14, 72, 0, [], 0),
  (59, 60, .aload_n 0, 1, 1, 0, [], 0),
  (60, 61, .iload_n 1, 1, 0, 1, [], 0),
  (61, 64, .invokestatic 168, 27, 0, 161, [], 1029),
  (64, 65, .aload_n 0, 1, 1, 0, [], 0),
  (65, 68, .invokestatic 164, 27, 0, 157, [], 1026),
  (68, 69, .istore_n 1, 2, 0, 1, [], 0),
  (69, 72, .goto (-14), 16, 55, 0, [], 0),
  (72, 73, .aload_n 0, 1, 1, 0, [], 0),
  (73, 74, .iconst 3, 0, 0, 3, [], 0),
  (74, 75, .dup2, 26, 0, 0, [], 0),
  (75, 76, .iaload, 20, 0, 0, [], 0),
  (76, 77, .iconst 1, 0, 0, 1, [], 0),
  (77, 78, .iadd, 4, 0, 0, [], 0),
  (78, 79, .iastore, 21, 0, 0, [], 0),
  (79, 80, .return_, 30, 0, 0, [], 0)]
/-- PuddingHobsModel.passes([I)V -/
def hm_T162 : hm_X := (yX8_passes, prog_10_method_41_code, 2, none, true, 1, [1013, 64, 1012, 0], hm_P162)
def hm_P163 : List hm_I := [
  (0, 1, .iconst 4, 0, 0, 4, [], 0),
  (1, 3, .bipush 7, 0, 0, 7, [], 0),
  (3, 4, .iload_n 1, 1, 0, 1, [], 0),
  (4, 5, .imul, 4, 0, 2, [], 0),
  (5, 6, .iadd, 4, 0, 0, [], 0),
  (6, 7, .istore_n 2, 2, 0, 2, [], 0),
  (7, 8, .aload_n 0, 1, 1, 0, [], 0),
  (8, 9, .iload_n 2, 1, 0, 2, [], 0),
  (9, 10, .iconst 2, 0, 0, 2, [], 0),
  (10, 11, .iadd, 4, 0, 0, [], 0),
  (11, 12, .aload_n 0, 1, 1, 0, [], 0),
  (12, 13, .iload_n 2, 1, 0, 2, [], 0),
  (13, 14, .iconst 2, 0, 0, 2, [], 0),
  (14, 15, .iadd, 4, 0, 0, [], 0),
  (15, 16, .iaload, 20, 0, 0, [], 0),
  (16, 17, .iconst 2, 0, 0, 2, [], 0),
  (17, 20, .if_icmp .le 13, 15, 30, 5, [], 0),
  (20, 21, .aload_n 0, 1, 1, 0, [], 0),
  (21, 22, .iload_n 2, 1, 0, 2, [], 0),
  (22, 23, .iconst 2, 0, 0, 2, [], 0),
  (23, 24, .iadd, 4, 0, 0, [], 0),
  (24, 25, .iaload, 20, 0, 0, [], 0),
  (25, 26, .iconst 2, 0, 0, 2, [], 0),
  (26, 27, .isub, 4, 0, 1, [], 0),
  (27, 30, .goto 4, 16, 31, 0, [], 0),
  (30, 31, .iconst 0, 0, 0, 0, [], 0),
  (31, 32, .iastore, 21, 0, 0, [], 0),
  (32, 33, .aload_n 0, 1, 1, 0, [], 0),
  (33, 34, .iload_n 2, 1, 0, 2, [], 0),
  (34, 36, .bipush 6, 0, 0, 6, [], 0),
  (36, 37, .iadd, 4, 0, 0, [], 0),
  (37, 38, .iconst 1, 0, 0, 1, [], 0),
  (38, 39, .iastore, 21, 0, 0, [], 0),
  (39, 40, .return_, 30, 0, 0, [], 0)]
/-- PuddingHobsModel.stirsOne([II)V -/
def hm_T163 : hm_X := (yX8_stirsOne, prog_10_method_42_code, 3, none, true, 2, [1058, 64, 1057, 0], hm_P163)
def hm_P164 : List hm_I := [
  (0, 1, .aload_n 0, 1, 1, 0, [], 0),
  (1, 2, .iconst 4, 0, 0, 4, [], 0),
  (2, 4, .bipush 7, 0, 0, 7, [], 0),
  (4, 5, .iload_n 1, 1, 0, 1, [], 0),
  (5, 6, .imul, 4, 0, 2, [], 0),
  (6, 7, .iadd, 4, 0, 0, [], 0),
  (7, 8, .iconst 3, 0, 0, 3, [], 0),
  (8, 9, .iadd, 4, 0, 0, [], 0),
  (9, 10, .iaload, 20, 0, 0, [], 0),
  (10, 11, .istore_n 3, 2, 0, 3, [], 0),
  (11, 12, .aload_n 0, 1, 1, 0, [], 0),
  (12, 13, .iconst 4, 0, 0, 4, [], 0),
  (13, 15, .bipush 7, 0, 0, 7, [], 0),
  (15, 16, .iload_n 1, 1, 0, 1, [], 0),
  (16, 17, .imul, 4, 0, 2, [], 0),
  (17, 18, .iadd, 4, 0, 0, [], 0),
  (18, 19, .iconst 3, 0, 0, 3, [], 0),
  (19, 20, .iadd, 4, 0, 0, [], 0),
  (20, 21, .aload_n 0, 1, 1, 0, [], 0),
  (21, 22, .iconst 4, 0, 0, 4, [], 0),
  (22, 24, .bipush 7, 0, 0, 7, [], 0),
  (24, 25, .iload_n 2, 1, 0, 2, [], 0),
  (25, 26, .imul, 4, 0, 2, [], 0),
  (26, 27, .iadd, 4, 0, 0, [], 0),
  (27, 28, .iconst 3, 0, 0, 3, [], 0),
  (28, 29, .iadd, 4, 0, 0, [], 0),
  (29, 30, .iaload, 20, 0, 0, [], 0),
  (30, 31, .iastore, 21, 0, 0, [], 0),
  (31, 32, .aload_n 0, 1, 1, 0, [], 0),
  (32, 33, .iconst 4, 0, 0, 4, [], 0),
  (33, 35, .bipush 7, 0, 0, 7, [], 0),
  (35, 36, .iload_n 2, 1, 0, 2, [], 0),
  (36, 37, .imul, 4, 0, 2, [], 0),
  (37, 38, .iadd, 4, 0, 0, [], 0),
  (38, 39, .iconst 3, 0, 0, 3, [], 0),
  (39, 40, .iadd, 4, 0, 0, [], 0),
  (40, 41, .iload_n 3, 1, 0, 3, [], 0),
  (41, 42, .iastore, 21, 0, 0, [], 0),
  (42, 43, .return_, 30, 0, 0, [], 0)]
/-- PuddingHobsModel.changes([III)V -/
def hm_T164 : hm_X := (yX8_changes, prog_10_method_43_code, 4, none, true, 3, [1069, 64, 1068, 0], hm_P164)
def hm_P165 : List hm_I := [
  (0, 1, .aload_n 0, 1, 1, 0, [], 0),
  (1, 4, .getfield 136, 18, 8, 17, [], 852),
  (4, 6, .bipush 24, 0, 0, 24, [], 0),
  (6, 9, .if_icmp .ne 43, 15, 49, 1, [], 0),
  (9, 10, .iconst 0, 0, 0, 0, [], 0),
  (10, 11, .istore_n 1, 2, 0, 1, [], 0),
  (11, 12, .iload_n 1, 1, 0, 1, [], 0),
  (12, 15, .sipush 1219, 0, 0, 1219, [], 0),
  (15, 18, .if_icmp .ge 24, 15, 39, 3, [], 0),
  (18, 19, .aload_n 0, 1, 1, 0, [], 0),
  (19, 22, .getfield 34, 18, 8, 16, [], 851),
  (22, 23, .iload_n 1, 1, 0, 1, [], 0),
  (23, 24, .aload_n 0, 1, 1, 0, [], 0),
  (24, 27, .getfield 34, 18, 8, 16, [], 851),
  (27, 28, .iload_n 1, 1, 0, 1, [], 0),
  (28, 30, .bipush 53, 0, 0, 53, [], 0),
  (30, 31, .iadd, 4, 0, 0, [], 0),
  (31, 32, .iaload, 20, 0, 0, [], 0),
  (32, 33, .iastore, 21, 0, 0, [], 0),
  (33, 36, .iinc 1 1, 3, 1, 1, [], 0),
  (36, 39, .goto (-25), 16, 11, 0, [], 0),
  (39, 40, .aload_n 0, 1, 1, 0, [], 0),
  (40, 41, .dup, 24, 0, 0, [], 0),
  (41, 44, .getfield 136, 18, 8, 17, [], 852),
  (44, 45, .iconst 1, 0, 0, 1, [], 0),
  (45, 46, .isub, 4, 0, 1, [], 0),
  (46, 49, .putfield 136, 19, 8, 17, [], 852),
  (49, 50, .aload_n 0, 1, 1, 0, [], 0),
  (50, 53, .getfield 25, 18, 8, 13, [], 848),
  (53, 54, .iconst 0, 0, 0, 0, [], 0),
  (54, 55, .aload_n 0, 1, 1, 0, [], 0),
  (55, 58, .getfield 34, 18, 8, 16, [], 851),
  (58, 60, .bipush 53, 0, 0, 53, [], 0),
  (60, 61, .aload_n 0, 1, 1, 0, [], 0),
  (61, 64, .getfield 136, 18, 8, 17, [], 852),
  (64, 65, .imul, 4, 0, 2, [], 0),
  (65, 68, .invokestatic 132, 27, 0, 130, [], 991),
  (68, 69, .aload_n 0, 1, 1, 0, [], 0),
  (69, 70, .dup, 24, 0, 0, [], 0),
  (70, 73, .getfield 136, 18, 8, 17, [], 852),
  (73, 74, .iconst 1, 0, 0, 1, [], 0),
  (74, 75, .iadd, 4, 0, 0, [], 0),
  (75, 78, .putfield 136, 19, 8, 17, [], 852),
  (78, 79, .return_, 30, 0, 0, [], 0)]
/-- PuddingHobsModel.notes()V -/
def hm_T165 : hm_X := (yX8_notes, prog_10_method_44_code, 2, none, false, 1, [1010, 64, 1009, 42], hm_P165)
def hm_P166 : List hm_I := [
  (0, 1, .aload_n 0, 1, 1, 0, [], 0),
  (1, 4, .invokevirtual 172, 27, 0, 151, [], 1002),
  (4, 7, .ifCond .ne 6, 14, 10, 1, [], 0),
  (7, 9, .ldc 175, 31, (-1000002), 0, [], 1006),
  (9, 10, .ireturn, 29, 0, 0, [], 0),
  (10, 11, .iload_n 1, 1, 0, 1, [], 0),
  (11, 12, .iconst 1, 0, 0, 1, [], 0),
  (12, 14, .bipush 24, 0, 0, 24, [], 0),
  (14, 17, .invokestatic 53, 27, 0, 124, [], 910),
  (17, 20, .ifCond .ne 6, 14, 23, 1, [], 0),
  (20, 22, .ldc 61, 31, (-1000001), 0, [], 913),
  (22, 23, .ireturn, 29, 0, 0, [], 0),
  (23, 24, .aload_n 0, 1, 1, 0, [], 0),
  (24, 27, .getfield 25, 18, 8, 13, [], 848),
  (27, 28, .iconst 3, 0, 0, 3, [], 0),
  (28, 29, .iaload, 20, 0, 0, [], 0),
  (29, 30, .iload_n 1, 1, 0, 1, [], 0),
  (30, 31, .iadd, 4, 0, 0, [], 0),
  (31, 34, .sipush 9999, 0, 0, 9999, [], 0),
  (34, 37, .if_icmp .le 6, 15, 40, 5, [], 0),
  (37, 39, .ldc 82, 31, (-1000003), 0, [], 950),
  (39, 40, .ireturn, 29, 0, 0, [], 0),
  (40, 41, .iconst 0, 0, 0, 0, [], 0),
  (41, 42, .istore_n 2, 2, 0, 2, [], 0),
  (42, 43, .iload_n 2, 1, 0, 2, [], 0),
  (43, 44, .iload_n 1, 1, 0, 1, [], 0),
  (44, 47, .if_icmp .ge 20, 15, 64, 3, [], 0),
  (47, 48, .aload_n 0, 1, 1, 0, [], 0),
  (48, 51, .invokevirtual 176, 27, 0, 165, [], 1007),
  (51, 52, .aload_n 0, 1, 1, 0, [], 0),
  (52, 55, .getfield 25, 18, 8, 13, [], 848),
  (55, 58, .invokestatic 179, 27, 0, 162, [], 1011),
  (58, 61, .iinc 2 1, 3, 1, 2, [], 0),
  (61, 64, .goto (-19), 16, 42, 0, [], 0),
  (64, 65, .aload_n 0, 1, 1, 0, [], 0),
  (65, 68, .getfield 25, 18, 8, 13, [], 848),
  (68, 69, .iconst 5, 0, 0, 5, [], 0),
  (69, 72, .invokestatic 183, 27, 0, 156, [], 1041),
  (72, 73, .ireturn, 29, 0, 0, [], 0)]
/-- PuddingHobsModel.hours(I)I -/
def hm_T166 : hm_X := (yX8_hours, prog_10_method_45_code, 3, (some .int), false, 2, [1001, 64, 999, 1000], hm_P166)
def hm_P167 : List hm_I := [
  (0, 1, .aload_n 0, 1, 1, 0, [], 0),
  (1, 2, .iload_n 1, 1, 0, 1, [], 0),
  (2, 5, .invokevirtual 186, 27, 0, 152, [], 1048),
  (5, 8, .ifCond .ne 6, 14, 11, 1, [], 0),
  (8, 10, .ldc 61, 31, (-1000001), 0, [], 913),
  (10, 11, .ireturn, 29, 0, 0, [], 0),
  (11, 12, .aload_n 0, 1, 1, 0, [], 0),
  (12, 13, .iload_n 1, 1, 0, 1, [], 0),
  (13, 16, .invokevirtual 189, 27, 0, 153, [], 1052),
  (16, 19, .ifCond .eq 6, 14, 22, 0, [], 0),
  (19, 21, .ldc 175, 31, (-1000002), 0, [], 1006),
  (21, 22, .ireturn, 29, 0, 0, [], 0),
  (22, 23, .aload_n 0, 1, 1, 0, [], 0),
  (23, 26, .invokevirtual 176, 27, 0, 165, [], 1007),
  (26, 27, .aload_n 0, 1, 1, 0, [], 0),
  (27, 30, .getfield 25, 18, 8, 13, [], 848),
  (30, 31, .iload_n 1, 1, 0, 1, [], 0),
  (31, 34, .invokestatic 192, 27, 0, 163, [], 1056),
  (34, 35, .aload_n 0, 1, 1, 0, [], 0),
  (35, 38, .getfield 25, 18, 8, 13, [], 848),
  (38, 39, .iconst 4, 0, 0, 4, [], 0),
  (39, 41, .bipush 7, 0, 0, 7, [], 0),
  (41, 42, .iload_n 1, 1, 0, 1, [], 0),
  (42, 43, .imul, 4, 0, 2, [], 0),
  (43, 44, .iadd, 4, 0, 0, [], 0),
  (44, 45, .iconst 2, 0, 0, 2, [], 0),
  (45, 46, .iadd, 4, 0, 0, [], 0),
  (46, 47, .iaload, 20, 0, 0, [], 0),
  (47, 48, .ireturn, 29, 0, 0, [], 0)]
/-- PuddingHobsModel.stir(I)I -/
def hm_T167 : hm_X := (yX8_stir, prog_10_method_46_code, 2, (some .int), false, 2, [1047, 64, 1045, 1046], hm_P167)
def hm_P168 : List hm_I := [
  (0, 1, .aload_n 0, 1, 1, 0, [], 0),
  (1, 2, .iload_n 1, 1, 0, 1, [], 0),
  (2, 5, .invokevirtual 186, 27, 0, 152, [], 1048),
  (5, 8, .ifCond .eq 12, 14, 17, 0, [], 0),
  (8, 9, .iload_n 2, 1, 0, 2, [], 0),
  (9, 10, .iconst 0, 0, 0, 0, [], 0),
  (10, 11, .iconst 1, 0, 0, 1, [], 0),
  (11, 14, .invokestatic 53, 27, 0, 124, [], 910),
  (14, 17, .ifCond .ne 6, 14, 20, 1, [], 0),
  (17, 19, .ldc 61, 31, (-1000001), 0, [], 913),
  (19, 20, .ireturn, 29, 0, 0, [], 0),
  (20, 21, .aload_n 0, 1, 1, 0, [], 0),
  (21, 24, .getfield 25, 18, 8, 13, [], 848),
  (24, 25, .iconst 4, 0, 0, 4, [], 0),
  (25, 27, .bipush 7, 0, 0, 7, [], 0),
  (27, 28, .iload_n 1, 1, 0, 1, [], 0),
  (28, 29, .imul, 4, 0, 2, [], 0),
  (29, 30, .iadd, 4, 0, 0, [], 0),
  (30, 31, .iconst 4, 0, 0, 4, [], 0),
  (31, 32, .iadd, 4, 0, 0, [], 0),
  (32, 33, .iaload, 20, 0, 0, [], 0),
  (33, 34, .iload_n 2, 1, 0, 2, [], 0),
  (34, 37, .if_icmp .ne 6, 15, 40, 1, [], 0),
  (37, 39, .ldc 175, 31, (-1000002), 0, [], 1006),
  (39, 40, .ireturn, 29, 0, 0, [], 0),
  (40, 41, .aload_n 0, 1, 1, 0, [], 0),
  (41, 44, .invokevirtual 176, 27, 0, 165, [], 1007),
  (44, 45, .aload_n 0, 1, 1, 0, [], 0),
  (45, 48, .getfield 25, 18, 8, 13, [], 848),
  (48, 49, .iconst 4, 0, 0, 4, [], 0),
  (49, 51, .bipush 7, 0, 0, 7, [], 0),
  (51, 52, .iload_n 1, 1, 0, 1, [], 0),
  (52, 53, .imul, 4, 0, 2, [], 0),
  (53, 54, .iadd, 4, 0, 0, [], 0),
  (54, 55, .iconst 4, 0, 0, 4, [], 0),
  (55, 56, .iadd, 4, 0, 0, [], 0),
  (56, 57, .iload_n 2, 1, 0, 2, [], 0),
  (57, 58, .iastore, 21, 0, 0, [], 0),
  (58, 59, .aload_n 0, 1, 1, 0, [], 0),
  (59, 62, .getfield 25, 18, 8, 13, [], 848),
  (62, 63, .iconst 4, 0, 0, 4, [], 0),
  (63, 66, .invokestatic 183, 27, 0, 156, [], 1041),
  (66, 67, .ireturn, 29, 0, 0, [], 0)]
/-- PuddingHobsModel.on(II)I -/
def hm_T168 : hm_X := (yX8_on, prog_10_method_47_code, 3, (some .int), false, 3, [1062, 64, 1060, 1061], hm_P168)
def hm_P169 : List hm_I := [
  (0, 1, .aload_n 0, 1, 1, 0, [], 0),
  (1, 2, .iload_n 1, 1, 0, 1, [], 0),
  (2, 5, .invokevirtual 186, 27, 0, 152, [], 1048),
  (5, 8, .ifCond .eq 16, 14, 21, 0, [], 0),
  (8, 9, .aload_n 0, 1, 1, 0, [], 0),
  (9, 10, .iload_n 2, 1, 0, 2, [], 0),
  (10, 13, .invokevirtual 186, 27, 0, 152, [], 1048),
  (13, 16, .ifCond .eq 8, 14, 21, 0, [], 0),
  (16, 17, .iload_n 1, 1, 0, 1, [], 0),
  (17, 18, .iload_n 2, 1, 0, 2, [], 0),
  (18, 21, .if_icmp .ne 6, 15, 24, 1, [], 0),
  (21, 23, .ldc 61, 31, (-1000001), 0, [], 913),
  (23, 24, .ireturn, 29, 0, 0, [], 0),
  (24, 25, .aload_n 0, 1, 1, 0, [], 0),
  (25, 28, .invokevirtual 176, 27, 0, 165, [], 1007),
  (28, 29, .aload_n 0, 1, 1, 0, [], 0),
  (29, 32, .getfield 25, 18, 8, 13, [], 848),
  (32, 33, .iload_n 1, 1, 0, 1, [], 0),
  (33, 34, .iload_n 2, 1, 0, 2, [], 0),
  (34, 37, .invokestatic 195, 27, 0, 164, [], 1067),
  (37, 38, .aload_n 0, 1, 1, 0, [], 0),
  (38, 41, .getfield 25, 18, 8, 13, [], 848),
  (41, 42, .iconst 4, 0, 0, 4, [], 0),
  (42, 44, .bipush 7, 0, 0, 7, [], 0),
  (44, 45, .iload_n 1, 1, 0, 1, [], 0),
  (45, 46, .imul, 4, 0, 2, [], 0),
  (46, 47, .iadd, 4, 0, 0, [], 0),
  (47, 48, .iconst 3, 0, 0, 3, [], 0),
  (48, 49, .iadd, 4, 0, 0, [], 0),
  (49, 50, .iaload, 20, 0, 0, [], 0),
  (50, 51, .ireturn, 29, 0, 0, [], 0)]
/-- PuddingHobsModel.swap(II)I -/
def hm_T169 : hm_X := (yX8_swap, prog_10_method_48_code, 3, (some .int), false, 3, [1066, 64, 1064, 1065], hm_P169)
def hm_P170 : List hm_I := [
  (0, 1, .aload_n 0, 1, 1, 0, [], 0),
  (1, 2, .iload_n 1, 1, 0, 1, [], 0),
  (2, 5, .invokevirtual 186, 27, 0, 152, [], 1048),
  (5, 8, .ifCond .eq 13, 14, 18, 0, [], 0),
  (8, 9, .iload_n 2, 1, 0, 2, [], 0),
  (9, 10, .iconst 1, 0, 0, 1, [], 0),
  (10, 12, .bipush 20, 0, 0, 20, [], 0),
  (12, 15, .invokestatic 53, 27, 0, 124, [], 910),
  (15, 18, .ifCond .ne 6, 14, 21, 1, [], 0),
  (18, 20, .ldc 61, 31, (-1000001), 0, [], 913),
  (20, 21, .ireturn, 29, 0, 0, [], 0),
  (21, 22, .aload_n 0, 1, 1, 0, [], 0),
  (22, 23, .iload_n 1, 1, 0, 1, [], 0),
  (23, 26, .invokevirtual 189, 27, 0, 153, [], 1052),
  (26, 29, .ifCond .eq 6, 14, 32, 0, [], 0),
  (29, 31, .ldc 175, 31, (-1000002), 0, [], 1006),
  (31, 32, .ireturn, 29, 0, 0, [], 0),
  (32, 33, .aload_n 0, 1, 1, 0, [], 0),
  (33, 36, .invokevirtual 176, 27, 0, 165, [], 1007),
  (36, 37, .iconst 4, 0, 0, 4, [], 0),
  (37, 39, .bipush 7, 0, 0, 7, [], 0),
  (39, 40, .iload_n 1, 1, 0, 1, [], 0),
  (40, 41, .imul, 4, 0, 2, [], 0),
  (41, 42, .iadd, 4, 0, 0, [], 0),
  (42, 43, .iconst 1, 0, 0, 1, [], 0),
  (43, 44, .iadd, 4, 0, 0, [], 0),
  (44, 45, .istore_n 3, 2, 0, 3, [], 0),
  (45, 46, .aload_n 0, 1, 1, 0, [], 0),
  (46, 49, .getfield 25, 18, 8, 13, [], 848),
  (49, 50, .iload_n 3, 1, 0, 3, [], 0),
  (50, 52, .bipush 20, 0, 0, 20, [], 0),
  (52, 53, .aload_n 0, 1, 1, 0, [], 0),
  (53, 56, .getfield 25, 18, 8, 13, [], 848),
  (56, 57, .iload_n 3, 1, 0, 3, [], 0),
  (57, 58, .iaload, 20, 0, 0, [], 0),
  (58, 59, .iload_n 2, 1, 0, 2, [], 0),
  (59, 60, .iadd, 4, 0, 0, [], 0),
  (60, 63, .invokestatic 150, 27, 0, 127, [], 1023),
  (63, 64, .iastore, 21, 0, 0, [], 0),
  (64, 65, .aload_n 0, 1, 1, 0, [], 0),
  (65, 68, .getfield 25, 18, 8, 13, [], 848),
  (68, 69, .iload_n 3, 1, 0, 3, [], 0),
  (69, 70, .iaload, 20, 0, 0, [], 0),
  (70, 71, .ireturn, 29, 0, 0, [], 0)]
/-- PuddingHobsModel.plums(II)I -/
def hm_T170 : hm_X := (yX8_plums, prog_10_method_49_code, 4, (some .int), false, 3, [1073, 64, 1071, 1072], hm_P170)
def hm_P171 : List hm_I := [
  (0, 1, .aload_n 0, 1, 1, 0, [], 0),
  (1, 4, .invokevirtual 172, 27, 0, 151, [], 1002),
  (4, 7, .ifCond .ne 6, 14, 10, 1, [], 0),
  (7, 9, .ldc 175, 31, (-1000002), 0, [], 1006),
  (9, 10, .ireturn, 29, 0, 0, [], 0),
  (10, 11, .iload_n 1, 1, 0, 1, [], 0),
  (11, 12, .iconst 0, 0, 0, 0, [], 0),
  (12, 14, .bipush 9, 0, 0, 9, [], 0),
  (14, 17, .invokestatic 53, 27, 0, 124, [], 910),
  (17, 20, .ifCond .ne 6, 14, 23, 1, [], 0),
  (20, 22, .ldc 61, 31, (-1000001), 0, [], 913),
  (22, 23, .ireturn, 29, 0, 0, [], 0),
  (23, 24, .aload_n 0, 1, 1, 0, [], 0),
  (24, 27, .invokevirtual 176, 27, 0, 165, [], 1007),
  (27, 28, .aload_n 0, 1, 1, 0, [], 0),
  (28, 31, .getfield 25, 18, 8, 13, [], 848),
  (31, 32, .iconst 0, 0, 0, 0, [], 0),
  (32, 33, .iaload, 20, 0, 0, [], 0),
  (33, 34, .istore_n 2, 2, 0, 2, [], 0),
  (34, 35, .aload_n 0, 1, 1, 0, [], 0),
  (35, 38, .getfield 25, 18, 8, 13, [], 848),
  (38, 39, .iconst 0, 0, 0, 0, [], 0),
  (39, 40, .iload_n 1, 1, 0, 1, [], 0),
  (40, 41, .iastore, 21, 0, 0, [], 0),
  (41, 42, .iload_n 2, 1, 0, 2, [], 0),
  (42, 43, .ireturn, 29, 0, 0, [], 0)]
/-- PuddingHobsModel.heat(I)I -/
def hm_T171 : hm_X := (yX8_heat, prog_10_method_50_code, 3, (some .int), false, 2, [1077, 64, 1075, 1076], hm_P171)
def hm_P172 : List hm_I := [
  (0, 1, .aload_n 0, 1, 1, 0, [], 0),
  (1, 4, .getfield 136, 18, 8, 17, [], 852),
  (4, 7, .ifCond .ne 6, 14, 10, 1, [], 0),
  (7, 9, .ldc 175, 31, (-1000002), 0, [], 1006),
  (9, 10, .ireturn, 29, 0, 0, [], 0),
  (10, 11, .aload_n 0, 1, 1, 0, [], 0),
  (11, 12, .dup, 24, 0, 0, [], 0),
  (12, 15, .getfield 136, 18, 8, 17, [], 852),
  (15, 16, .iconst 1, 0, 0, 1, [], 0),
  (16, 17, .isub, 4, 0, 1, [], 0),
  (17, 20, .putfield 136, 19, 8, 17, [], 852),
  (20, 21, .aload_n 0, 1, 1, 0, [], 0),
  (21, 24, .getfield 34, 18, 8, 16, [], 851),
  (24, 26, .bipush 53, 0, 0, 53, [], 0),
  (26, 27, .aload_n 0, 1, 1, 0, [], 0),
  (27, 30, .getfield 136, 18, 8, 17, [], 852),
  (30, 31, .imul, 4, 0, 2, [], 0),
  (31, 32, .aload_n 0, 1, 1, 0, [], 0),
  (32, 35, .getfield 25, 18, 8, 13, [], 848),
  (35, 36, .iconst 0, 0, 0, 0, [], 0),
  (36, 39, .invokestatic 132, 27, 0, 130, [], 991),
  (39, 40, .aload_n 0, 1, 1, 0, [], 0),
  (40, 43, .getfield 136, 18, 8, 17, [], 852),
  (43, 44, .ireturn, 29, 0, 0, [], 0)]
/-- PuddingHobsModel.undo()I -/
def hm_T172 : hm_X := (yX8_undo, prog_10_method_51_code, 1, (some .int), false, 1, [1081, 64, 1079, 1080], hm_P172)
def hm_P173 : List hm_I := [
  (0, 1, .aload_n 0, 1, 1, 0, [], 0),
  (1, 2, .iload_n 1, 1, 0, 1, [], 0),
  (2, 5, .invokevirtual 186, 27, 0, 152, [], 1048),
  (5, 8, .ifCond .ne 6, 14, 11, 1, [], 0),
  (8, 10, .ldc 61, 31, (-1000001), 0, [], 913),
  (10, 11, .ireturn, 29, 0, 0, [], 0),
  (11, 12, .iconst 4, 0, 0, 4, [], 0),
  (12, 14, .bipush 7, 0, 0, 7, [], 0),
  (14, 15, .iload_n 1, 1, 0, 1, [], 0),
  (15, 16, .imul, 4, 0, 2, [], 0),
  (16, 17, .iadd, 4, 0, 0, [], 0),
  (17, 18, .istore_n 3, 2, 0, 3, [], 0),
  (18, 19, .iload_n 2, 1, 0, 2, [], 0),
  (19, 60, .tableswitch 104 0 6 #[41, 50, 59, 68, 77, 86, 95], 17, 123, 0, [(0, 60), (1, 69), (2, 78), (3, 87), (4, 96), (5, 105), (6, 114)], 0),
  (60, 61, .aload_n 0, 1, 1, 0, [], 0),
  (61, 64, .getfield 25, 18, 8, 13, [], 848),
  (64, 65, .iload_n 3, 1, 0, 3, [], 0),
  (65, 66, .iconst 2, 0, 0, 2, [], 0),
  (66, 67, .iadd, 4, 0, 0, [], 0),
  (67, 68, .iaload, 20, 0, 0, [], 0),
  (68, 69, .ireturn, 29, 0, 0, [], 0),
  (69, 70, .aload_n 0, 1, 1, 0, [], 0),
  (70, 73, .getfield 25, 18, 8, 13, [], 848),
  (73, 74, .iload_n 3, 1, 0, 3, [], 0),
  (74, 75, .iconst 1, 0, 0, 1, [], 0),
  (75, 76, .iadd, 4, 0, 0, [], 0),
  (76, 77, .iaload, 20, 0, 0, [], 0),
  (77, 78, .ireturn, 29, 0, 0, [], 0),
  (78, 79, .aload_n 0, 1, 1, 0, [], 0),
  (79, 82, .getfield 25, 18, 8, 13, [], 848),
  (82, 83, .iload_n 3, 1, 0, 3, [], 0),
  (83, 84, .iconst 3, 0, 0, 3, [], 0),
  (84, 85, .iadd, 4, 0, 0, [], 0),
  (85, 86, .iaload, 20, 0, 0, [], 0),
  (86, 87, .ireturn, 29, 0, 0, [], 0),
  (87, 88, .aload_n 0, 1, 1, 0, [], 0),
  (88, 91, .getfield 25, 18, 8, 13, [], 848),
  (91, 92, .iload_n 3, 1, 0, 3, [], 0),
  (92, 93, .iconst 4, 0, 0, 4, [], 0),
  (93, 94, .iadd, 4, 0, 0, [], 0),
  (94, 95, .iaload, 20, 0, 0, [], 0),
  (95, 96, .ireturn, 29, 0, 0, [], 0),
  (96, 97, .aload_n 0, 1, 1, 0, [], 0),
  (97, 100, .getfield 25, 18, 8, 13, [], 848),
  (100, 101, .iload_n 3, 1, 0, 3, [], 0),
  (101, 102, .iconst 5, 0, 0, 5, [], 0),
  (102, 103, .iadd, 4, 0, 0, [], 0),
  (103, 104, .iaload, 20, 0, 0, [], 0),
  (104, 105, .ireturn, 29, 0, 0, [], 0),
  (105, 106, .aload_n 0, 1, 1, 0, [], 0),
  (106, 109, .getfield 25, 18, 8, 13, [], 848),
  (109, 110, .iload_n 1, 1, 0, 1, [], 0),
  (110, 113, .invokestatic 139, 27, 0, 154, [], 1017),
  (113, 114, .ireturn, 29, 0, 0, [], 0),
  (114, 115, .aload_n 0, 1, 1, 0, [], 0),
  (115, 118, .getfield 25, 18, 8, 13, [], 848),
  (118, 119, .iload_n 1, 1, 0, 1, [], 0),
  (119, 122, .invokestatic 161, 27, 0, 155, [], 1014),
  (122, 123, .ireturn, 29, 0, 0, [], 0),
  (123, 125, .ldc 61, 31, (-1000001), 0, [], 913),
  (125, 126, .ireturn, 29, 0, 0, [], 0)]
/-- PuddingHobsModel.basin(II)I -/
def hm_T173 : hm_X := (yX8_basin, prog_10_method_52_code, 4, (some .int), false, 3, [1085, 64, 1083, 1084], hm_P173)
def hm_P174 : List hm_I := [
  (0, 1, .aload_n 0, 1, 1, 0, [], 0),
  (1, 2, .iload_n 1, 1, 0, 1, [], 0),
  (2, 5, .invokevirtual 186, 27, 0, 152, [], 1048),
  (5, 8, .ifCond .eq 14, 14, 19, 0, [], 0),
  (8, 9, .aload_n 0, 1, 1, 0, [], 0),
  (9, 12, .getfield 25, 18, 8, 13, [], 848),
  (12, 13, .iload_n 1, 1, 0, 1, [], 0),
  (13, 16, .invokestatic 143, 27, 0, 158, [], 1038),
  (16, 19, .goto 5, 16, 21, 0, [], 0),
  (19, 21, .ldc 61, 31, (-1000001), 0, [], 913),
  (21, 22, .ireturn, 29, 0, 0, [], 0)]
/-- PuddingHobsModel.place(I)I -/
def hm_T174 : hm_X := (yX8_place, prog_10_method_53_code, 2, (some .int), false, 2, [1089, 64, 1087, 1088], hm_P174)
def hm_P175 : List hm_I := [
  (0, 1, .iconst 0, 0, 0, 0, [], 0),
  (1, 2, .istore_n 2, 2, 0, 2, [], 0),
  (2, 3, .iload_n 2, 1, 0, 2, [], 0),
  (3, 4, .iload_n 1, 1, 0, 1, [], 0),
  (4, 7, .if_icmp .ge 16, 15, 20, 3, [], 0),
  (7, 8, .aload_n 0, 1, 1, 0, [], 0),
  (8, 11, .getfield 31, 18, 8, 15, [], 850),
  (11, 14, .invokestatic 179, 27, 0, 162, [], 1011),
  (14, 17, .iinc 2 1, 3, 1, 2, [], 0),
  (17, 20, .goto (-15), 16, 2, 0, [], 0),
  (20, 21, .return_, 30, 0, 0, [], 0)]
/-- PuddingHobsModel.goesOn(I)V -/
def hm_T175 : hm_X := (yX8_goesOn, prog_10_method_54_code, 3, none, false, 2, [1097, 64, 1096, 45], hm_P175)
def hm_P176 : List hm_I := [
  (0, 1, .aload_n 0, 1, 1, 0, [], 0),
  (1, 2, .iload_n 1, 1, 0, 1, [], 0),
  (2, 5, .invokevirtual 186, 27, 0, 152, [], 1048),
  (5, 8, .ifCond .eq 13, 14, 18, 0, [], 0),
  (8, 9, .iload_n 2, 1, 0, 2, [], 0),
  (9, 10, .iconst 0, 0, 0, 0, [], 0),
  (10, 12, .bipush 60, 0, 0, 60, [], 0),
  (12, 15, .invokestatic 53, 27, 0, 124, [], 910),
  (15, 18, .ifCond .ne 6, 14, 21, 1, [], 0),
  (18, 20, .ldc 61, 31, (-1000001), 0, [], 913),
  (20, 21, .ireturn, 29, 0, 0, [], 0),
  (21, 22, .aload_n 0, 1, 1, 0, [], 0),
  (22, 25, .getfield 25, 18, 8, 13, [], 848),
  (25, 26, .iconst 0, 0, 0, 0, [], 0),
  (26, 27, .aload_n 0, 1, 1, 0, [], 0),
  (27, 30, .getfield 31, 18, 8, 15, [], 850),
  (30, 31, .iconst 0, 0, 0, 0, [], 0),
  (31, 34, .invokestatic 132, 27, 0, 130, [], 991),
  (34, 35, .aload_n 0, 1, 1, 0, [], 0),
  (35, 36, .iload_n 2, 1, 0, 2, [], 0),
  (36, 39, .invokevirtual 198, 27, 0, 175, [], 1094),
  (39, 40, .aload_n 0, 1, 1, 0, [], 0),
  (40, 43, .getfield 31, 18, 8, 15, [], 850),
  (43, 44, .iconst 4, 0, 0, 4, [], 0),
  (44, 46, .bipush 7, 0, 0, 7, [], 0),
  (46, 47, .iload_n 1, 1, 0, 1, [], 0),
  (47, 48, .imul, 4, 0, 2, [], 0),
  (48, 49, .iadd, 4, 0, 0, [], 0),
  (49, 50, .iconst 2, 0, 0, 2, [], 0),
  (50, 51, .iadd, 4, 0, 0, [], 0),
  (51, 52, .iaload, 20, 0, 0, [], 0),
  (52, 53, .ireturn, 29, 0, 0, [], 0)]
/-- PuddingHobsModel.swell(II)I -/
def hm_T176 : hm_X := (yX8_swell, prog_10_method_55_code, 3, (some .int), false, 3, [1093, 64, 1091, 1092], hm_P176)
def hm_P177 : List hm_I := [
  (0, 1, .aload_n 0, 1, 1, 0, [], 0),
  (1, 4, .invokevirtual 172, 27, 0, 151, [], 1002),
  (4, 7, .ifCond .ne 6, 14, 10, 1, [], 0),
  (7, 9, .ldc 175, 31, (-1000002), 0, [], 1006),
  (9, 10, .ireturn, 29, 0, 0, [], 0),
  (10, 11, .iload_n 1, 1, 0, 1, [], 0),
  (11, 12, .iconst 0, 0, 0, 0, [], 0),
  (12, 14, .bipush 60, 0, 0, 60, [], 0),
  (14, 17, .invokestatic 53, 27, 0, 124, [], 910),
  (17, 20, .ifCond .ne 6, 14, 23, 1, [], 0),
  (20, 22, .ldc 61, 31, (-1000001), 0, [], 913),
  (22, 23, .ireturn, 29, 0, 0, [], 0),
  (23, 24, .aload_n 0, 1, 1, 0, [], 0),
  (24, 27, .getfield 25, 18, 8, 13, [], 848),
  (27, 28, .iconst 0, 0, 0, 0, [], 0),
  (28, 29, .aload_n 0, 1, 1, 0, [], 0),
  (29, 32, .getfield 31, 18, 8, 15, [], 850),
  (32, 33, .iconst 0, 0, 0, 0, [], 0),
  (33, 36, .invokestatic 132, 27, 0, 130, [], 991),
  (36, 37, .aload_n 0, 1, 1, 0, [], 0),
  (37, 38, .iload_n 1, 1, 0, 1, [], 0),
  (38, 41, .invokevirtual 198, 27, 0, 175, [], 1094),
  (41, 42, .aload_n 0, 1, 1, 0, [], 0),
  (42, 45, .getfield 31, 18, 8, 15, [], 850),
  (45, 46, .iconst 5, 0, 0, 5, [], 0),
  (46, 49, .invokestatic 183, 27, 0, 156, [], 1041),
  (49, 50, .ireturn, 29, 0, 0, [], 0)]
/-- PuddingHobsModel.burst(I)I -/
def hm_T177 : hm_X := (yX8_burst, prog_10_method_56_code, 2, (some .int), false, 2, [1101, 64, 1099, 1100], hm_P177)
def hm_P178 : List hm_I := [
  (0, 1, .aload_n 0, 1, 1, 0, [], 0),
  (1, 2, .iload_n 1, 1, 0, 1, [], 0),
  (2, 5, .invokevirtual 186, 27, 0, 152, [], 1048),
  (5, 8, .ifCond .ne 6, 14, 11, 1, [], 0),
  (8, 10, .ldc 61, 31, (-1000001), 0, [], 913),
  (10, 11, .ireturn, 29, 0, 0, [], 0),
  (11, 12, .aload_n 0, 1, 1, 0, [], 0),
  (12, 15, .getfield 25, 18, 8, 13, [], 848),
  (15, 16, .iconst 0, 0, 0, 0, [], 0),
  (16, 17, .aload_n 0, 1, 1, 0, [], 0),
  (17, 20, .getfield 31, 18, 8, 15, [], 850),
  (20, 21, .iconst 0, 0, 0, 0, [], 0),
  (21, 24, .invokestatic 132, 27, 0, 130, [], 991),
  (24, 25, .iconst 0, 0, 0, 0, [], 0),
  (25, 26, .istore_n 2, 2, 0, 2, [], 0),
  (26, 27, .iload_n 2, 1, 0, 2, [], 0),
  (27, 29, .bipush 61, 0, 0, 61, [], 0),
  (29, 32, .if_icmp .ge 35, 15, 64, 3, [], 0),
  (32, 33, .aload_n 0, 1, 1, 0, [], 0),
  (33, 36, .getfield 31, 18, 8, 15, [], 850),
  (36, 37, .iconst 4, 0, 0, 4, [], 0),
  (37, 39, .bipush 7, 0, 0, 7, [], 0),
  (39, 40, .iload_n 1, 1, 0, 1, [], 0),
  (40, 41, .imul, 4, 0, 2, [], 0),
  (41, 42, .iadd, 4, 0, 0, [], 0),
  (42, 43, .iconst 5, 0, 0, 5, [], 0),
  (43, 44, .iadd, 4, 0, 0, [], 0),
  (44, 45, .iaload, 20, 0, 0, [], 0),
  (45, 46, .iconst 1, 0, 0, 1, [], 0),
  (46, 49, .if_icmp .ne 5, 15, 51, 1, [], 0),
  (49, 50, .iload_n 2, 1, 0, 2, [], 0),
  (50, 51, .ireturn, 29, 0, 0, [], 0),
  (51, 52, .aload_n 0, 1, 1, 0, [], 0),
  (52, 55, .getfield 31, 18, 8, 15, [], 850),
  (55, 58, .invokestatic 179, 27, 0, 162, [], 1011),
  (58, 61, .iinc 2 1, 3, 1, 2, [], 0),
  (61, 64, .goto (-35), 16, 26, 0, [], 0),
  (64, 66, .ldc 47, 31, (-1000000), 0, [], 834),
  (66, 67, .ireturn, 29, 0, 0, [], 0)]
/-- PuddingHobsModel.bursting(I)I -/
def hm_T178 : hm_X := (yX8_bursting, prog_10_method_57_code, 3, (some .int), false, 2, [1105, 64, 1103, 1104], hm_P178)
def hm_P179 : List hm_I := [
  (0, 1, .aload_n 0, 1, 1, 0, [], 0),
  (1, 4, .invokevirtual 172, 27, 0, 151, [], 1002),
  (4, 7, .ifCond .ne 6, 14, 10, 1, [], 0),
  (7, 9, .ldc 175, 31, (-1000002), 0, [], 1006),
  (9, 10, .ireturn, 29, 0, 0, [], 0),
  (10, 11, .iload_n 1, 1, 0, 1, [], 0),
  (11, 12, .iconst 0, 0, 0, 0, [], 0),
  (12, 13, .iconst 1, 0, 0, 1, [], 0),
  (13, 16, .invokestatic 53, 27, 0, 124, [], 910),
  (16, 19, .ifCond .ne 6, 14, 22, 1, [], 0),
  (19, 21, .ldc 61, 31, (-1000001), 0, [], 913),
  (21, 22, .ireturn, 29, 0, 0, [], 0),
  (22, 23, .aload_n 0, 1, 1, 0, [], 0),
  (23, 26, .getfield 25, 18, 8, 13, [], 848),
  (26, 27, .iconst 0, 0, 0, 0, [], 0),
  (27, 28, .aload_n 0, 1, 1, 0, [], 0),
  (28, 31, .getfield 31, 18, 8, 15, [], 850),
  (31, 32, .iconst 0, 0, 0, 0, [], 0),
  (32, 35, .invokestatic 132, 27, 0, 130, [], 991),
  (35, 36, .iconst 1, 0, 0, 1, [], 0),
  (36, 37, .istore_n 2, 2, 0, 2, [], 0),
  (37, 38, .iload_n 2, 1, 0, 2, [], 0),
  (38, 40, .bipush 61, 0, 0, 61, [], 0),
  (40, 43, .if_icmp .ge 76, 15, 116, 3, [], 0),
  (43, 44, .aload_n 0, 1, 1, 0, [], 0),
  (44, 47, .getfield 31, 18, 8, 15, [], 850),
  (47, 50, .invokestatic 179, 27, 0, 162, [], 1011),
  (50, 51, .aload_n 0, 1, 1, 0, [], 0),
  (51, 54, .getfield 31, 18, 8, 15, [], 850),
  (54, 55, .iconst 5, 0, 0, 5, [], 0),
  (55, 58, .invokestatic 183, 27, 0, 156, [], 1041),
  (58, 59, .aload_n 0, 1, 1, 0, [], 0),
  (59, 62, .getfield 25, 18, 8, 13, [], 848),
  (62, 63, .iconst 5, 0, 0, 5, [], 0),
  (63, 66, .invokestatic 183, 27, 0, 156, [], 1041),
  (66, 67, .iconst (-1), 31, (-1), 0, [], 0),
  (67, 68, .ixor, 4, 0, 5, [], 0),
  (68, 69, .iand, 4, 0, 3, [], 0),
  (69, 70, .istore_n 3, 2, 0, 3, [], 0),
  (70, 71, .iconst 0, 0, 0, 0, [], 0),
  (71, 73, .istore 4, 2, 0, 4, [], 0),
  (73, 75, .iload 4, 1, 0, 4, [], 0),
  (75, 76, .aload_n 0, 1, 1, 0, [], 0),
  (76, 79, .getfield 25, 18, 8, 13, [], 848),
  (79, 80, .iconst 2, 0, 0, 2, [], 0),
  (80, 81, .iaload, 20, 0, 0, [], 0),
  (81, 84, .if_icmp .ge 29, 15, 110, 3, [], 0),
  (84, 85, .iload_n 3, 1, 0, 3, [], 0),
  (85, 87, .iload 4, 1, 0, 4, [], 0),
  (87, 90, .invokestatic 146, 27, 0, 125, [], 1032),
  (90, 93, .ifCond .eq 14, 14, 104, 0, [], 0),
  (93, 94, .iload_n 1, 1, 0, 1, [], 0),
  (94, 97, .ifCond .ne 8, 14, 102, 1, [], 0),
  (97, 99, .iload 4, 1, 0, 4, [], 0),
  (99, 102, .goto 4, 16, 103, 0, [], 0),
  (102, 103, .iload_n 2, 1, 0, 2, [], 0),
  (103, 104, .ireturn, 29, 0, 0, [], 0),
  (104, 107, .iinc 4 1, 3, 1, 4, [], 0),
  (107, 110, .goto (-34), 16, 73, 0, [], 0),
  (110, 113, .iinc 2 1, 3, 1, 2, [], 0),
  (113, 116, .goto (-76), 16, 37, 0, [], 0),
  (116, 118, .ldc 47, 31, (-1000000), 0, [], 834),
  (118, 119, .ireturn, 29, 0, 0, [], 0)]
/-- PuddingHobsModel.first(I)I -/
def hm_T179 : hm_X := (yX8_first, prog_10_method_58_code, 5, (some .int), false, 2, [1109, 64, 1107, 1108], hm_P179)
def hm_P180 : List hm_I := [
  (0, 1, .iload_n 0, 1, 0, 0, [], 0),
  (1, 2, .iconst 1, 0, 0, 1, [], 0),
  (2, 4, .bipush 30, 0, 0, 30, [], 0),
  (4, 7, .invokestatic 53, 27, 0, 124, [], 910),
  (7, 8, .ireturn, 29, 0, 1, [], 0)]
/-- PuddingHobsModel.isNear(I)Z -/
def hm_T180 : hm_X := (yX8_isNear, prog_10_method_59_code, 1, (some .boolean), true, 1, [1116, 64, 1115, 0], hm_P180)
def hm_P181 : List hm_I := [
  (0, 1, .aload_n 0, 1, 1, 0, [], 0),
  (1, 2, .iload_n 1, 1, 0, 1, [], 0),
  (2, 5, .invokevirtual 186, 27, 0, 152, [], 1048),
  (5, 8, .ifCond .eq 10, 14, 15, 0, [], 0),
  (8, 9, .iload_n 2, 1, 0, 2, [], 0),
  (9, 12, .invokestatic 202, 27, 0, 180, [], 1114),
  (12, 15, .ifCond .ne 6, 14, 18, 1, [], 0),
  (15, 17, .ldc 61, 31, (-1000001), 0, [], 913),
  (17, 18, .ireturn, 29, 0, 0, [], 0),
  (18, 19, .iconst 0, 0, 0, 0, [], 0),
  (19, 20, .istore_n 3, 2, 0, 3, [], 0),
  (20, 21, .iload_n 3, 1, 0, 3, [], 0),
  (21, 23, .bipush 21, 0, 0, 21, [], 0),
  (23, 26, .if_icmp .ge 68, 15, 91, 3, [], 0),
  (26, 27, .aload_n 0, 1, 1, 0, [], 0),
  (27, 30, .getfield 25, 18, 8, 13, [], 848),
  (30, 31, .iconst 0, 0, 0, 0, [], 0),
  (31, 32, .aload_n 0, 1, 1, 0, [], 0),
  (32, 35, .getfield 31, 18, 8, 15, [], 850),
  (35, 36, .iconst 0, 0, 0, 0, [], 0),
  (36, 39, .invokestatic 132, 27, 0, 130, [], 991),
  (39, 40, .iconst 0, 0, 0, 0, [], 0),
  (40, 42, .istore 4, 2, 0, 4, [], 0),
  (42, 44, .iload 4, 1, 0, 4, [], 0),
  (44, 45, .iload_n 3, 1, 0, 3, [], 0),
  (45, 48, .if_icmp .ge 17, 15, 62, 3, [], 0),
  (48, 49, .aload_n 0, 1, 1, 0, [], 0),
  (49, 52, .getfield 31, 18, 8, 15, [], 850),
  (52, 53, .iload_n 1, 1, 0, 1, [], 0),
  (53, 56, .invokestatic 192, 27, 0, 163, [], 1056),
  (56, 59, .iinc 4 1, 3, 1, 4, [], 0),
  (59, 62, .goto (-17), 16, 42, 0, [], 0),
  (62, 63, .aload_n 0, 1, 1, 0, [], 0),
  (63, 64, .iload_n 2, 1, 0, 2, [], 0),
  (64, 67, .invokevirtual 198, 27, 0, 175, [], 1094),
  (67, 68, .aload_n 0, 1, 1, 0, [], 0),
  (68, 71, .getfield 31, 18, 8, 15, [], 850),
  (71, 72, .iconst 4, 0, 0, 4, [], 0),
  (72, 74, .bipush 7, 0, 0, 7, [], 0),
  (74, 75, .iload_n 1, 1, 0, 1, [], 0),
  (75, 76, .imul, 4, 0, 2, [], 0),
  (76, 77, .iadd, 4, 0, 0, [], 0),
  (77, 78, .iconst 5, 0, 0, 5, [], 0),
  (78, 79, .iadd, 4, 0, 0, [], 0),
  (79, 80, .iaload, 20, 0, 0, [], 0),
  (80, 83, .ifCond .ne 5, 14, 85, 1, [], 0),
  (83, 84, .iload_n 3, 1, 0, 3, [], 0),
  (84, 85, .ireturn, 29, 0, 0, [], 0),
  (85, 88, .iinc 3 1, 3, 1, 3, [], 0),
  (88, 91, .goto (-68), 16, 20, 0, [], 0),
  (91, 93, .ldc 47, 31, (-1000000), 0, [], 834),
  (93, 94, .ireturn, 29, 0, 0, [], 0)]
/-- PuddingHobsModel.stirs(II)I -/
def hm_T181 : hm_X := (yX8_stirs, prog_10_method_60_code, 5, (some .int), false, 3, [1113, 64, 1111, 1112], hm_P181)
def hm_P182 : List hm_I := [
  (0, 1, .aload_n 0, 1, 1, 0, [], 0),
  (1, 2, .iload_n 1, 1, 0, 1, [], 0),
  (2, 5, .invokevirtual 198, 27, 0, 175, [], 1094),
  (5, 6, .aload_n 0, 1, 1, 0, [], 0),
  (6, 9, .getfield 31, 18, 8, 15, [], 850),
  (9, 10, .iconst 5, 0, 0, 5, [], 0),
  (10, 13, .invokestatic 183, 27, 0, 156, [], 1041),
  (13, 14, .aload_n 0, 1, 1, 0, [], 0),
  (14, 17, .getfield 25, 18, 8, 13, [], 848),
  (17, 18, .iconst 5, 0, 0, 5, [], 0),
  (18, 21, .invokestatic 183, 27, 0, 156, [], 1041),
  (21, 24, .if_icmp .ne 7, 15, 28, 1, [], 0),
  (24, 25, .iconst 1, 0, 0, 1, [], 0),
  (25, 28, .goto 4, 16, 29, 0, [], 0),
  (28, 29, .iconst 0, 0, 0, 0, [], 0),
  (29, 30, .ireturn, 29, 0, 1, [], 0)]
/-- PuddingHobsModel.noneBursts(I)Z -/
def hm_T182 : hm_X := (yX8_noneBursts, prog_10_method_61_code, 2, (some .boolean), false, 2, [1127, 64, 1126, 46], hm_P182)
def hm_P183 : List hm_I := [
  (0, 1, .aload_n 0, 1, 1, 0, [], 0),
  (1, 4, .invokevirtual 172, 27, 0, 151, [], 1002),
  (4, 7, .ifCond .ne 6, 14, 10, 1, [], 0),
  (7, 9, .ldc 175, 31, (-1000002), 0, [], 1006),
  (9, 10, .ireturn, 29, 0, 0, [], 0),
  (10, 11, .iload_n 1, 1, 0, 1, [], 0),
  (11, 14, .invokestatic 202, 27, 0, 180, [], 1114),
  (14, 17, .ifCond .eq 12, 14, 26, 0, [], 0),
  (17, 18, .iload_n 2, 1, 0, 2, [], 0),
  (18, 19, .iconst 0, 0, 0, 0, [], 0),
  (19, 20, .iconst 1, 0, 0, 1, [], 0),
  (20, 23, .invokestatic 53, 27, 0, 124, [], 910),
  (23, 26, .ifCond .ne 6, 14, 29, 1, [], 0),
  (26, 28, .ldc 61, 31, (-1000001), 0, [], 913),
  (28, 29, .ireturn, 29, 0, 0, [], 0),
  (29, 31, .ldc 47, 31, (-1000000), 0, [], 834),
  (31, 32, .istore_n 3, 2, 0, 3, [], 0),
  (32, 33, .iconst 0, 0, 0, 0, [], 0),
  (33, 35, .istore 4, 2, 0, 4, [], 0),
  (35, 37, .iload 4, 1, 0, 4, [], 0),
  (37, 38, .iconst 1, 0, 0, 1, [], 0),
  (38, 39, .aload_n 0, 1, 1, 0, [], 0),
  (39, 42, .getfield 25, 18, 8, 13, [], 848),
  (42, 43, .iconst 2, 0, 0, 2, [], 0),
  (43, 44, .iaload, 20, 0, 0, [], 0),
  (44, 45, .ishl, 4, 0, 6, [], 0),
  (45, 48, .if_icmp .ge 129, 15, 174, 3, [], 0),
  (48, 49, .iload_n 3, 1, 0, 3, [], 0),
  (49, 51, .ldc 47, 31, (-1000000), 0, [], 834),
  (51, 54, .if_icmp .eq 15, 15, 66, 0, [], 0),
  (54, 56, .iload 4, 1, 0, 4, [], 0),
  (56, 59, .invokestatic 205, 27, 0, 126, [], 1121),
  (59, 60, .iload_n 3, 1, 0, 3, [], 0),
  (60, 63, .invokestatic 205, 27, 0, 126, [], 1121),
  (63, 66, .if_icmp .ge 7, 15, 70, 3, [], 0),
  (66, 67, .iconst 1, 0, 0, 1, [], 0),
  (67, 70, .goto 4, 16, 71, 0, [], 0),
  (70, 71, .iconst 0, 0, 0, 0, [], 0),
  (71, 73, .istore 5, 2, 0, 5, [], 0),
  (73, 75, .iload 5, 1, 0, 5, [], 0),
  (75, 78, .ifCond .eq 93, 14, 168, 0, [], 0),
  (78, 79, .aload_n 0, 1, 1, 0, [], 0),
  (79, 82, .getfield 25, 18, 8, 13, [], 848),
  (82, 83, .iconst 0, 0, 0, 0, [], 0),
  (83, 84, .aload_n 0, 1, 1, 0, [], 0),
  (84, 87, .getfield 31, 18, 8, 15, [], 850),
  (87, 88, .iconst 0, 0, 0, 0, [], 0),
  (88, 91, .invokestatic 132, 27, 0, 130, [], 991),
  (91, 92, .iconst 0, 0, 0, 0, [], 0),
  (92, 94, .istore 6, 2, 0, 6, [], 0),
  (94, 96, .iload 6, 1, 0, 6, [], 0),
  (96, 97, .aload_n 0, 1, 1, 0, [], 0),
  (97, 100, .getfield 25, 18, 8, 13, [], 848),
  (100, 101, .iconst 2, 0, 0, 2, [], 0),
  (101, 102, .iaload, 20, 0, 0, [], 0),
  (102, 105, .if_icmp .ge 51, 15, 153, 3, [], 0),
  (105, 106, .aload_n 0, 1, 1, 0, [], 0),
  (106, 109, .getfield 31, 18, 8, 15, [], 850),
  (109, 110, .iconst 4, 0, 0, 4, [], 0),
  (110, 112, .bipush 7, 0, 0, 7, [], 0),
  (112, 114, .iload 6, 1, 0, 6, [], 0),
  (114, 115, .imul, 4, 0, 2, [], 0),
  (115, 116, .iadd, 4, 0, 0, [], 0),
  (116, 117, .iconst 4, 0, 0, 4, [], 0),
  (117, 118, .iadd, 4, 0, 0, [], 0),
  (118, 120, .iload 4, 1, 0, 4, [], 0),
  (120, 122, .iload 6, 1, 0, 6, [], 0),
  (122, 125, .invokestatic 146, 27, 0, 125, [], 1032),
  (125, 128, .ifCond .eq 7, 14, 132, 0, [], 0),
  (128, 129, .iconst 0, 0, 0, 0, [], 0),
  (129, 132, .goto 17, 16, 146, 0, [], 0),
  (132, 133, .aload_n 0, 1, 1, 0, [], 0),
  (133, 136, .getfield 25, 18, 8, 13, [], 848),
  (136, 137, .iconst 4, 0, 0, 4, [], 0),
  (137, 139, .bipush 7, 0, 0, 7, [], 0),
  (139, 141, .iload 6, 1, 0, 6, [], 0),
  (141, 142, .imul, 4, 0, 2, [], 0),
  (142, 143, .iadd, 4, 0, 0, [], 0),
  (143, 144, .iconst 4, 0, 0, 4, [], 0),
  (144, 145, .iadd, 4, 0, 0, [], 0),
  (145, 146, .iaload, 20, 0, 0, [], 0),
  (146, 147, .iastore, 21, 0, 0, [], 0),
  (147, 150, .iinc 6 1, 3, 1, 6, [], 0),
  (150, 153, .goto (-56), 16, 94, 0, [], 0),
  (153, 154, .aload_n 0, 1, 1, 0, [], 0),
  (154, 155, .iload_n 1, 1, 0, 1, [], 0),
  (155, 158, .invokevirtual 208, 27, 0, 182, [], 1124),
  (158, 161, .ifCond .eq 8, 14, 166, 0, [], 0),
  (161, 163, .iload 4, 1, 0, 4, [], 0),
  (163, 166, .goto 4, 16, 167, 0, [], 0),
  (166, 167, .iload_n 3, 1, 0, 3, [], 0),
  (167, 168, .istore_n 3, 2, 0, 3, [], 0),
  (168, 171, .iinc 4 1, 3, 1, 4, [], 0),
  (171, 174, .goto (-136), 16, 35, 0, [], 0),
  (174, 175, .iload_n 3, 1, 0, 3, [], 0),
  (175, 177, .ldc 47, 31, (-1000000), 0, [], 834),
  (177, 180, .if_icmp .eq 8, 15, 185, 0, [], 0),
  (180, 181, .iload_n 2, 1, 0, 2, [], 0),
  (181, 182, .iconst 1, 0, 0, 1, [], 0),
  (182, 185, .if_icmp .ne 7, 15, 189, 1, [], 0),
  (185, 186, .iload_n 3, 1, 0, 3, [], 0),
  (186, 189, .goto 7, 16, 193, 0, [], 0),
  (189, 190, .iload_n 3, 1, 0, 3, [], 0),
  (190, 193, .invokestatic 205, 27, 0, 126, [], 1121),
  (193, 194, .ireturn, 29, 0, 0, [], 0)]
/-- PuddingHobsModel.off(II)I -/
def hm_T183 : hm_X := (yX8_off, prog_10_method_62_code, 7, (some .int), false, 3, [1120, 64, 1118, 1119], hm_P183)
def hm_P184 : List hm_I := [
  (0, 1, .aload_n 0, 1, 1, 0, [], 0),
  (1, 4, .invokevirtual 172, 27, 0, 151, [], 1002),
  (4, 7, .ifCond .ne 6, 14, 10, 1, [], 0),
  (7, 9, .ldc 175, 31, (-1000002), 0, [], 1006),
  (9, 10, .ireturn, 29, 0, 0, [], 0),
  (10, 11, .iload_n 1, 1, 0, 1, [], 0),
  (11, 14, .invokestatic 202, 27, 0, 180, [], 1114),
  (14, 17, .ifCond .eq 12, 14, 26, 0, [], 0),
  (17, 18, .iload_n 2, 1, 0, 2, [], 0),
  (18, 19, .iconst 0, 0, 0, 0, [], 0),
  (19, 20, .iconst 1, 0, 0, 1, [], 0),
  (20, 23, .invokestatic 53, 27, 0, 124, [], 910),
  (23, 26, .ifCond .ne 6, 14, 29, 1, [], 0),
  (26, 28, .ldc 61, 31, (-1000001), 0, [], 913),
  (28, 29, .ireturn, 29, 0, 0, [], 0),
  (29, 31, .ldc 47, 31, (-1000000), 0, [], 834),
  (31, 32, .istore_n 3, 2, 0, 3, [], 0),
  (32, 34, .ldc 47, 31, (-1000000), 0, [], 834),
  (34, 36, .istore 4, 2, 0, 4, [], 0),
  (36, 37, .iconst 0, 0, 0, 0, [], 0),
  (37, 39, .istore 5, 2, 0, 5, [], 0),
  (39, 41, .iload 5, 1, 0, 5, [], 0),
  (41, 42, .aload_n 0, 1, 1, 0, [], 0),
  (42, 45, .getfield 25, 18, 8, 13, [], 848),
  (45, 46, .iconst 2, 0, 0, 2, [], 0),
  (46, 47, .iaload, 20, 0, 0, [], 0),
  (47, 50, .if_icmp .ge 126, 15, 173, 3, [], 0),
  (50, 52, .iload 5, 1, 0, 5, [], 0),
  (52, 53, .iconst 1, 0, 0, 1, [], 0),
  (53, 54, .iadd, 4, 0, 0, [], 0),
  (54, 56, .istore 6, 2, 0, 6, [], 0),
  (56, 58, .iload 6, 1, 0, 6, [], 0),
  (58, 59, .aload_n 0, 1, 1, 0, [], 0),
  (59, 62, .getfield 25, 18, 8, 13, [], 848),
  (62, 63, .iconst 2, 0, 0, 2, [], 0),
  (63, 64, .iaload, 20, 0, 0, [], 0),
  (64, 67, .if_icmp .ge 103, 15, 167, 3, [], 0),
  (67, 68, .aload_n 0, 1, 1, 0, [], 0),
  (68, 71, .getfield 25, 18, 8, 13, [], 848),
  (71, 72, .iconst 0, 0, 0, 0, [], 0),
  (72, 73, .aload_n 0, 1, 1, 0, [], 0),
  (73, 76, .getfield 31, 18, 8, 15, [], 850),
  (76, 77, .iconst 0, 0, 0, 0, [], 0),
  (77, 80, .invokestatic 132, 27, 0, 130, [], 991),
  (80, 81, .aload_n 0, 1, 1, 0, [], 0),
  (81, 84, .getfield 31, 18, 8, 15, [], 850),
  (84, 86, .iload 5, 1, 0, 5, [], 0),
  (86, 88, .iload 6, 1, 0, 6, [], 0),
  (88, 91, .invokestatic 195, 27, 0, 164, [], 1067),
  (91, 92, .aload_n 0, 1, 1, 0, [], 0),
  (92, 93, .iload_n 1, 1, 0, 1, [], 0),
  (93, 96, .invokevirtual 198, 27, 0, 175, [], 1094),
  (96, 97, .aload_n 0, 1, 1, 0, [], 0),
  (97, 100, .getfield 31, 18, 8, 15, [], 850),
  (100, 101, .iconst 5, 0, 0, 5, [], 0),
  (101, 104, .invokestatic 183, 27, 0, 156, [], 1041),
  (104, 107, .invokestatic 205, 27, 0, 126, [], 1121),
  (107, 109, .istore 7, 2, 0, 7, [], 0),
  (109, 110, .iload_n 3, 1, 0, 3, [], 0),
  (110, 112, .ldc 47, 31, (-1000000), 0, [], 834),
  (112, 115, .if_icmp .eq 10, 15, 122, 0, [], 0),
  (115, 117, .iload 7, 1, 0, 7, [], 0),
  (117, 119, .iload 4, 1, 0, 4, [], 0),
  (119, 122, .if_icmp .ge 7, 15, 126, 3, [], 0),
  (122, 123, .iconst 1, 0, 0, 1, [], 0),
  (123, 126, .goto 4, 16, 127, 0, [], 0),
  (126, 127, .iconst 0, 0, 0, 0, [], 0),
  (127, 129, .istore 8, 2, 0, 8, [], 0),
  (129, 131, .iload 8, 1, 0, 8, [], 0),
  (131, 134, .ifCond .eq 14, 14, 145, 0, [], 0),
  (134, 136, .bipush 10, 0, 0, 10, [], 0),
  (136, 138, .iload 5, 1, 0, 5, [], 0),
  (138, 139, .imul, 4, 0, 2, [], 0),
  (139, 141, .iload 6, 1, 0, 6, [], 0),
  (141, 142, .iadd, 4, 0, 0, [], 0),
  (142, 145, .goto 4, 16, 146, 0, [], 0),
  (145, 146, .iload_n 3, 1, 0, 3, [], 0),
  (146, 147, .istore_n 3, 2, 0, 3, [], 0),
  (147, 149, .iload 8, 1, 0, 8, [], 0),
  (149, 152, .ifCond .eq 8, 14, 157, 0, [], 0),
  (152, 154, .iload 7, 1, 0, 7, [], 0),
  (154, 157, .goto 5, 16, 159, 0, [], 0),
  (157, 159, .iload 4, 1, 0, 4, [], 0),
  (159, 161, .istore 4, 2, 0, 4, [], 0),
  (161, 164, .iinc 6 1, 3, 1, 6, [], 0),
  (164, 167, .goto (-108), 16, 56, 0, [], 0),
  (167, 170, .iinc 5 1, 3, 1, 5, [], 0),
  (170, 173, .goto (-131), 16, 39, 0, [], 0),
  (173, 174, .iload_n 2, 1, 0, 2, [], 0),
  (174, 177, .ifCond .ne 7, 14, 181, 1, [], 0),
  (177, 178, .iload_n 3, 1, 0, 3, [], 0),
  (178, 181, .goto 5, 16, 183, 0, [], 0),
  (181, 183, .iload 4, 1, 0, 4, [], 0),
  (183, 184, .ireturn, 29, 0, 0, [], 0)]
/-- PuddingHobsModel.change(II)I -/
def hm_T184 : hm_X := (yX8_change, prog_10_method_63_code, 9, (some .int), false, 3, [1131, 64, 1129, 1130], hm_P184)
def hm_P185 : List hm_I := [
  (0, 1, .aload_n 0, 1, 1, 0, [], 0),
  (1, 4, .invokevirtual 172, 27, 0, 151, [], 1002),
  (4, 7, .ifCond .ne 6, 14, 10, 1, [], 0),
  (7, 9, .ldc 175, 31, (-1000002), 0, [], 1006),
  (9, 10, .ireturn, 29, 0, 0, [], 0),
  (10, 11, .iload_n 1, 1, 0, 1, [], 0),
  (11, 14, .invokestatic 202, 27, 0, 180, [], 1114),
  (14, 17, .ifCond .ne 6, 14, 20, 1, [], 0),
  (17, 19, .ldc 61, 31, (-1000001), 0, [], 913),
  (19, 20, .ireturn, 29, 0, 0, [], 0),
  (20, 22, .bipush 9, 0, 0, 9, [], 0),
  (22, 23, .istore_n 2, 2, 0, 2, [], 0),
  (23, 24, .iload_n 2, 1, 0, 2, [], 0),
  (24, 27, .ifCond .lt 39, 14, 63, 2, [], 0),
  (27, 28, .aload_n 0, 1, 1, 0, [], 0),
  (28, 31, .getfield 25, 18, 8, 13, [], 848),
  (31, 32, .iconst 0, 0, 0, 0, [], 0),
  (32, 33, .aload_n 0, 1, 1, 0, [], 0),
  (33, 36, .getfield 31, 18, 8, 15, [], 850),
  (36, 37, .iconst 0, 0, 0, 0, [], 0),
  (37, 40, .invokestatic 132, 27, 0, 130, [], 991),
  (40, 41, .aload_n 0, 1, 1, 0, [], 0),
  (41, 44, .getfield 31, 18, 8, 15, [], 850),
  (44, 45, .iconst 0, 0, 0, 0, [], 0),
  (45, 46, .iload_n 2, 1, 0, 2, [], 0),
  (46, 47, .iastore, 21, 0, 0, [], 0),
  (47, 48, .aload_n 0, 1, 1, 0, [], 0),
  (48, 49, .iload_n 1, 1, 0, 1, [], 0),
  (49, 52, .invokevirtual 208, 27, 0, 182, [], 1124),
  (52, 55, .ifCond .eq 5, 14, 57, 0, [], 0),
  (55, 56, .iload_n 2, 1, 0, 2, [], 0),
  (56, 57, .ireturn, 29, 0, 0, [], 0),
  (57, 60, .iinc 2 (-1), 3, (-1), 2, [], 0),
  (60, 63, .goto (-37), 16, 23, 0, [], 0),
  (63, 65, .ldc 47, 31, (-1000000), 0, [], 834),
  (65, 66, .ireturn, 29, 0, 0, [], 0)]
/-- PuddingHobsModel.hottest(I)I -/
def hm_T185 : hm_X := (yX8_hottest, prog_10_method_64_code, 3, (some .int), false, 2, [1135, 64, 1133, 1134], hm_P185)
def hm_P186 : List hm_I := [
  (0, 1, .aload_n 0, 1, 1, 0, [], 0),
  (1, 2, .iload_n 1, 1, 0, 1, [], 0),
  (2, 5, .invokevirtual 189, 27, 0, 153, [], 1052),
  (5, 8, .ifCond .eq 7, 14, 12, 0, [], 0),
  (8, 9, .iconst 0, 0, 0, 0, [], 0),
  (9, 12, .goto 16, 16, 25, 0, [], 0),
  (12, 13, .aload_n 0, 1, 1, 0, [], 0),
  (13, 16, .getfield 25, 18, 8, 13, [], 848),
  (16, 17, .iconst 4, 0, 0, 4, [], 0),
  (17, 19, .bipush 7, 0, 0, 7, [], 0),
  (19, 20, .iload_n 1, 1, 0, 1, [], 0),
  (20, 21, .imul, 4, 0, 2, [], 0),
  (21, 22, .iadd, 4, 0, 0, [], 0),
  (22, 23, .iconst 1, 0, 0, 1, [], 0),
  (23, 24, .iadd, 4, 0, 0, [], 0),
  (24, 25, .iaload, 20, 0, 0, [], 0),
  (25, 26, .ireturn, 29, 0, 0, [], 0)]
/-- PuddingHobsModel.plumsIn(I)I -/
def hm_T186 : hm_X := (yX8_plumsIn, prog_10_method_65_code, 2, (some .int), false, 2, [1143, 64, 1142, 47], hm_P186)
def hm_P187 : List hm_I := [
  (0, 1, .aload_n 0, 1, 1, 0, [], 0),
  (1, 2, .iload_n 1, 1, 0, 1, [], 0),
  (2, 5, .invokevirtual 186, 27, 0, 152, [], 1048),
  (5, 8, .ifCond .eq 14, 14, 19, 0, [], 0),
  (8, 9, .iload_n 2, 1, 0, 2, [], 0),
  (9, 10, .iconst 0, 0, 0, 0, [], 0),
  (10, 13, .sipush 999, 0, 0, 999, [], 0),
  (13, 16, .invokestatic 53, 27, 0, 124, [], 910),
  (16, 19, .ifCond .ne 6, 14, 22, 1, [], 0),
  (19, 21, .ldc 61, 31, (-1000001), 0, [], 913),
  (21, 22, .ireturn, 29, 0, 0, [], 0),
  (22, 23, .iconst 0, 0, 0, 0, [], 0),
  (23, 24, .istore_n 3, 2, 0, 3, [], 0),
  (24, 25, .iconst 0, 0, 0, 0, [], 0),
  (25, 27, .istore 4, 2, 0, 4, [], 0),
  (27, 29, .iload 4, 1, 0, 4, [], 0),
  (29, 30, .aload_n 0, 1, 1, 0, [], 0),
  (30, 33, .getfield 25, 18, 8, 13, [], 848),
  (33, 34, .iconst 2, 0, 0, 2, [], 0),
  (34, 35, .iaload, 20, 0, 0, [], 0),
  (35, 38, .if_icmp .ge 18, 15, 53, 3, [], 0),
  (38, 39, .iload_n 3, 1, 0, 3, [], 0),
  (39, 40, .aload_n 0, 1, 1, 0, [], 0),
  (40, 42, .iload 4, 1, 0, 4, [], 0),
  (42, 45, .invokevirtual 211, 27, 0, 186, [], 1140),
  (45, 46, .iadd, 4, 0, 0, [], 0),
  (46, 47, .istore_n 3, 2, 0, 3, [], 0),
  (47, 50, .iinc 4 1, 3, 1, 4, [], 0),
  (50, 53, .goto (-23), 16, 27, 0, [], 0),
  (53, 54, .aload_n 0, 1, 1, 0, [], 0),
  (54, 55, .iload_n 1, 1, 0, 1, [], 0),
  (55, 58, .invokevirtual 211, 27, 0, 186, [], 1140),
  (58, 61, .ifCond .ne 5, 14, 63, 1, [], 0),
  (61, 62, .iconst 0, 0, 0, 0, [], 0),
  (62, 63, .ireturn, 29, 0, 0, [], 0),
  (63, 64, .iload_n 2, 1, 0, 2, [], 0),
  (64, 66, .istore 4, 2, 0, 4, [], 0),
  (66, 67, .iconst 0, 0, 0, 0, [], 0),
  (67, 69, .istore 5, 2, 0, 5, [], 0),
  (69, 70, .iconst 0, 0, 0, 0, [], 0),
  (70, 72, .istore 6, 2, 0, 6, [], 0),
  (72, 74, .iload 6, 1, 0, 6, [], 0),
  (74, 75, .aload_n 0, 1, 1, 0, [], 0),
  (75, 78, .getfield 25, 18, 8, 13, [], 848),
  (78, 79, .iconst 2, 0, 0, 2, [], 0),
  (79, 80, .iaload, 20, 0, 0, [], 0),
  (80, 83, .if_icmp .ge 49, 15, 129, 3, [], 0),
  (83, 85, .iload 4, 1, 0, 4, [], 0),
  (85, 86, .iload_n 2, 1, 0, 2, [], 0),
  (86, 87, .aload_n 0, 1, 1, 0, [], 0),
  (87, 89, .iload 6, 1, 0, 6, [], 0),
  (89, 92, .invokevirtual 211, 27, 0, 186, [], 1140),
  (92, 93, .imul, 4, 0, 2, [], 0),
  (93, 94, .iload_n 3, 1, 0, 3, [], 0),
  (94, 95, .idiv, 5, 0, 0, [], 0),
  (95, 96, .isub, 4, 0, 1, [], 0),
  (96, 98, .istore 4, 2, 0, 4, [], 0),
  (98, 100, .iload 5, 1, 0, 5, [], 0),
  (100, 102, .iload 6, 1, 0, 6, [], 0),
  (102, 103, .iload_n 1, 1, 0, 1, [], 0),
  (103, 106, .if_icmp .ge 16, 15, 119, 3, [], 0),
  (106, 107, .aload_n 0, 1, 1, 0, [], 0),
  (107, 109, .iload 6, 1, 0, 6, [], 0),
  (109, 112, .invokevirtual 211, 27, 0, 186, [], 1140),
  (112, 115, .ifCond .le 7, 14, 119, 5, [], 0),
  (115, 116, .iconst 1, 0, 0, 1, [], 0),
  (116, 119, .goto 4, 16, 120, 0, [], 0),
  (119, 120, .iconst 0, 0, 0, 0, [], 0),
  (120, 121, .iadd, 4, 0, 0, [], 0),
  (121, 123, .istore 5, 2, 0, 5, [], 0),
  (123, 126, .iinc 6 1, 3, 1, 6, [], 0),
  (126, 129, .goto (-54), 16, 72, 0, [], 0),
  (129, 130, .iload_n 2, 1, 0, 2, [], 0),
  (130, 131, .aload_n 0, 1, 1, 0, [], 0),
  (131, 132, .iload_n 1, 1, 0, 1, [], 0),
  (132, 135, .invokevirtual 211, 27, 0, 186, [], 1140),
  (135, 136, .imul, 4, 0, 2, [], 0),
  (136, 137, .iload_n 3, 1, 0, 3, [], 0),
  (137, 138, .idiv, 5, 0, 0, [], 0),
  (138, 140, .iload 5, 1, 0, 5, [], 0),
  (140, 142, .iload 4, 1, 0, 4, [], 0),
  (142, 145, .if_icmp .ge 7, 15, 149, 3, [], 0),
  (145, 146, .iconst 1, 0, 0, 1, [], 0),
  (146, 149, .goto 4, 16, 150, 0, [], 0),
  (149, 150, .iconst 0, 0, 0, 0, [], 0),
  (150, 151, .iadd, 4, 0, 0, [], 0),
  (151, 152, .ireturn, 29, 0, 0, [], 0)]
/-- PuddingHobsModel.slices(II)I -/
def hm_T187 : hm_X := (yX8_slices, prog_10_method_66_code, 7, (some .int), false, 3, [1139, 64, 1137, 1138], hm_P187)
def hm_P188 : List hm_I := [
  (0, 1, .aload_n 0, 1, 1, 0, [], 0),
  (1, 4, .getfield 25, 18, 8, 13, [], 848),
  (4, 5, .iconst 0, 0, 0, 0, [], 0),
  (5, 6, .aload_n 0, 1, 1, 0, [], 0),
  (6, 9, .getfield 31, 18, 8, 15, [], 850),
  (9, 10, .iconst 0, 0, 0, 0, [], 0),
  (10, 13, .invokestatic 132, 27, 0, 130, [], 991),
  (13, 14, .aload_n 0, 1, 1, 0, [], 0),
  (14, 17, .getfield 31, 18, 8, 15, [], 850),
  (17, 19, .iload 4, 1, 0, 4, [], 0),
  (19, 21, .iload 5, 1, 0, 5, [], 0),
  (21, 22, .iastore, 21, 0, 0, [], 0),
  (22, 23, .iconst 1, 0, 0, 1, [], 0),
  (23, 25, .istore 6, 2, 0, 6, [], 0),
  (25, 26, .iconst 0, 0, 0, 0, [], 0),
  (26, 28, .istore 7, 2, 0, 7, [], 0),
  (28, 30, .iload 7, 1, 0, 7, [], 0),
  (30, 31, .iload_n 3, 1, 0, 3, [], 0),
  (31, 34, .if_icmp .ge 53, 15, 84, 3, [], 0),
  (34, 35, .aload_n 0, 1, 1, 0, [], 0),
  (35, 38, .getfield 31, 18, 8, 15, [], 850),
  (38, 41, .invokestatic 179, 27, 0, 162, [], 1011),
  (41, 43, .iload 6, 1, 0, 6, [], 0),
  (43, 46, .ifCond .eq 32, 14, 75, 0, [], 0),
  (46, 47, .aload_n 0, 1, 1, 0, [], 0),
  (47, 50, .getfield 31, 18, 8, 15, [], 850),
  (50, 51, .iconst 4, 0, 0, 4, [], 0),
  (51, 53, .bipush 7, 0, 0, 7, [], 0),
  (53, 54, .iload_n 1, 1, 0, 1, [], 0),
  (54, 55, .imul, 4, 0, 2, [], 0),
  (55, 56, .iadd, 4, 0, 0, [], 0),
  (56, 57, .iconst 2, 0, 0, 2, [], 0),
  (57, 58, .iadd, 4, 0, 0, [], 0),
  (58, 59, .iaload, 20, 0, 0, [], 0),
  (59, 60, .aload_n 0, 1, 1, 0, [], 0),
  (60, 63, .getfield 16, 18, 8, 2, [], 837),
  (63, 64, .iload_n 2, 1, 0, 2, [], 0),
  (64, 66, .iload 7, 1, 0, 7, [], 0),
  (66, 67, .iadd, 4, 0, 0, [], 0),
  (67, 68, .iaload, 20, 0, 0, [], 0),
  (68, 71, .if_icmp .ne 7, 15, 75, 1, [], 0),
  (71, 72, .iconst 1, 0, 0, 1, [], 0),
  (72, 75, .goto 4, 16, 76, 0, [], 0),
  (75, 76, .iconst 0, 0, 0, 0, [], 0),
  (76, 78, .istore 6, 2, 0, 6, [], 0),
  (78, 81, .iinc 7 1, 3, 1, 7, [], 0),
  (81, 84, .goto (-53), 16, 28, 0, [], 0),
  (84, 86, .iload 6, 1, 0, 6, [], 0),
  (86, 87, .ireturn, 29, 0, 1, [], 0)]
/-- PuddingHobsModel.swellsSo(IIIII)Z -/
def hm_T188 : hm_X := (yX8_swellsSo, prog_10_method_67_code, 8, (some .boolean), false, 6, [1151, 64, 1150, 48], hm_P188)
def hm_P189 : List hm_I := [
  (0, 1, .aload_n 0, 1, 1, 0, [], 0),
  (1, 2, .iload_n 1, 1, 0, 1, [], 0),
  (2, 5, .invokevirtual 186, 27, 0, 152, [], 1048),
  (5, 8, .ifCond .eq 31, 14, 36, 0, [], 0),
  (8, 9, .iload_n 2, 1, 0, 2, [], 0),
  (9, 12, .invokestatic 57, 27, 0, 131, [], 907),
  (12, 15, .ifCond .eq 24, 14, 36, 0, [], 0),
  (15, 17, .iload 4, 1, 0, 4, [], 0),
  (17, 18, .iconst 1, 0, 0, 1, [], 0),
  (18, 20, .bipush 12, 0, 0, 12, [], 0),
  (20, 23, .invokestatic 53, 27, 0, 124, [], 910),
  (23, 26, .ifCond .eq 13, 14, 36, 0, [], 0),
  (26, 28, .iload 5, 1, 0, 5, [], 0),
  (28, 29, .iconst 0, 0, 0, 0, [], 0),
  (29, 30, .iconst 4, 0, 0, 4, [], 0),
  (30, 33, .invokestatic 53, 27, 0, 124, [], 910),
  (33, 36, .ifCond .ne 6, 14, 39, 1, [], 0),
  (36, 38, .ldc 61, 31, (-1000001), 0, [], 913),
  (38, 39, .ireturn, 29, 0, 0, [], 0),
  (39, 40, .aload_n 0, 1, 1, 0, [], 0),
  (40, 41, .iload_n 2, 1, 0, 2, [], 0),
  (41, 44, .invokevirtual 69, 27, 0, 132, [], 927),
  (44, 47, .ifCond .eq 9, 14, 53, 0, [], 0),
  (47, 48, .aload_n 0, 1, 1, 0, [], 0),
  (48, 49, .iconst 1, 0, 0, 1, [], 0),
  (49, 52, .invokevirtual 62, 27, 0, 128, [], 914),
  (52, 53, .ireturn, 29, 0, 0, [], 0),
  (53, 54, .aload_n 0, 1, 1, 0, [], 0),
  (54, 55, .iload_n 2, 1, 0, 2, [], 0),
  (55, 56, .iload_n 3, 1, 0, 3, [], 0),
  (56, 58, .iload 4, 1, 0, 4, [], 0),
  (58, 61, .invokevirtual 76, 27, 0, 136, [], 938),
  (61, 64, .ifCond .ne 9, 14, 70, 1, [], 0),
  (64, 65, .aload_n 0, 1, 1, 0, [], 0),
  (65, 66, .iconst 2, 0, 0, 2, [], 0),
  (66, 69, .invokevirtual 62, 27, 0, 128, [], 914),
  (69, 70, .ireturn, 29, 0, 0, [], 0),
  (70, 72, .bipush 40, 0, 0, 40, [], 0),
  (72, 73, .iload_n 2, 1, 0, 2, [], 0),
  (73, 74, .imul, 4, 0, 2, [], 0),
  (74, 75, .iload_n 3, 1, 0, 3, [], 0),
  (75, 76, .iadd, 4, 0, 0, [], 0),
  (76, 78, .istore 6, 2, 0, 6, [], 0),
  (78, 79, .iconst 4, 0, 0, 4, [], 0),
  (79, 81, .bipush 7, 0, 0, 7, [], 0),
  (81, 82, .iload_n 1, 1, 0, 1, [], 0),
  (82, 83, .imul, 4, 0, 2, [], 0),
  (83, 84, .iadd, 4, 0, 0, [], 0),
  (84, 86, .istore 7, 2, 0, 7, [], 0),
  (86, 87, .iconst 0, 0, 0, 0, [], 0),
  (87, 89, .istore 8, 2, 0, 8, [], 0),
  (89, 90, .iconst 0, 0, 0, 0, [], 0),
  (90, 92, .istore 9, 2, 0, 9, [], 0),
  (92, 94, .ldc 47, 31, (-1000000), 0, [], 834),
  (94, 96, .istore 10, 2, 0, 10, [], 0),
  (96, 98, .iload 5, 1, 0, 5, [], 0),
  (98, 99, .iconst 3, 0, 0, 3, [], 0),
  (99, 102, .if_icmp .ge 101, 15, 200, 3, [], 0),
  (102, 104, .iload 5, 1, 0, 5, [], 0),
  (104, 107, .ifCond .ne 7, 14, 111, 1, [], 0),
  (107, 108, .iconst 5, 0, 0, 5, [], 0),
  (108, 111, .goto 16, 16, 124, 0, [], 0),
  (111, 113, .iload 5, 1, 0, 5, [], 0),
  (113, 114, .iconst 1, 0, 0, 1, [], 0),
  (114, 117, .if_icmp .ne 8, 15, 122, 1, [], 0),
  (117, 119, .bipush 20, 0, 0, 20, [], 0),
  (119, 122, .goto 5, 16, 124, 0, [], 0),
  (122, 124, .bipush 9, 0, 0, 9, [], 0),
  (124, 126, .istore 11, 2, 0, 11, [], 0),
  (126, 128, .iload 5, 1, 0, 5, [], 0),
  (128, 131, .ifCond .ne 7, 14, 135, 1, [], 0),
  (131, 132, .iconst 1, 0, 0, 1, [], 0),
  (132, 135, .goto 4, 16, 136, 0, [], 0),
  (135, 136, .iconst 0, 0, 0, 0, [], 0),
  (136, 138, .istore 12, 2, 0, 12, [], 0),
  (138, 140, .iload 12, 1, 0, 12, [], 0),
  (140, 142, .iload 11, 1, 0, 11, [], 0),
  (142, 145, .if_icmp .gt 51, 15, 193, 4, [], 0),
  (145, 147, .iload 8, 1, 0, 8, [], 0),
  (147, 148, .aload_n 0, 1, 1, 0, [], 0),
  (148, 149, .iload_n 1, 1, 0, 1, [], 0),
  (149, 151, .iload 6, 1, 0, 6, [], 0),
  (151, 153, .iload 4, 1, 0, 4, [], 0),
  (153, 155, .iload 5, 1, 0, 5, [], 0),
  (155, 156, .iconst 2, 0, 0, 2, [], 0),
  (156, 159, .if_icmp .ne 7, 15, 163, 1, [], 0),
  (159, 160, .iconst 0, 0, 0, 0, [], 0),
  (160, 163, .goto 8, 16, 168, 0, [], 0),
  (163, 165, .iload 7, 1, 0, 7, [], 0),
  (165, 167, .iload 5, 1, 0, 5, [], 0),
  (167, 168, .iadd, 4, 0, 0, [], 0),
  (168, 170, .iload 12, 1, 0, 12, [], 0),
  (170, 173, .invokevirtual 214, 27, 0, 188, [], 1148),
  (173, 176, .ifCond .eq 10, 14, 183, 0, [], 0),
  (176, 177, .iconst 1, 0, 0, 1, [], 0),
  (177, 179, .iload 12, 1, 0, 12, [], 0),
  (179, 180, .ishl, 4, 0, 6, [], 0),
  (180, 183, .goto 4, 16, 184, 0, [], 0),
  (183, 184, .iconst 0, 0, 0, 0, [], 0),
  (184, 185, .ior, 4, 0, 4, [], 0),
  (185, 187, .istore 8, 2, 0, 8, [], 0),
  (187, 190, .iinc 12 1, 3, 1, 12, [], 0),
  (190, 193, .goto (-52), 16, 138, 0, [], 0),
  (193, 194, .aload_n 0, 1, 1, 0, [], 0),
  (194, 196, .iload 8, 1, 0, 8, [], 0),
  (196, 199, .invokevirtual 66, 27, 0, 129, [], 919),
  (199, 200, .ireturn, 29, 0, 0, [], 0),
  (200, 202, .bipush 60, 0, 0, 60, [], 0),
  (202, 204, .istore 11, 2, 0, 11, [], 0),
  (204, 206, .iload 11, 1, 0, 11, [], 0),
  (206, 207, .iconst 5, 0, 0, 5, [], 0),
  (207, 210, .if_icmp .lt 52, 15, 259, 2, [], 0),
  (210, 211, .aload_n 0, 1, 1, 0, [], 0),
  (211, 212, .iload_n 1, 1, 0, 1, [], 0),
  (212, 214, .iload 6, 1, 0, 6, [], 0),
  (214, 216, .iload 4, 1, 0, 4, [], 0),
  (216, 217, .iconst 1, 0, 0, 1, [], 0),
  (217, 219, .iload 11, 1, 0, 11, [], 0),
  (219, 222, .invokevirtual 214, 27, 0, 188, [], 1148),
  (222, 224, .istore 12, 2, 0, 12, [], 0),
  (224, 226, .iload 9, 1, 0, 9, [], 0),
  (226, 228, .iload 12, 1, 0, 12, [], 0),
  (228, 231, .ifCond .eq 7, 14, 235, 0, [], 0),
  (231, 232, .iconst 1, 0, 0, 1, [], 0),
  (232, 235, .goto 4, 16, 236, 0, [], 0),
  (235, 236, .iconst 0, 0, 0, 0, [], 0),
  (236, 237, .iadd, 4, 0, 0, [], 0),
  (237, 239, .istore 9, 2, 0, 9, [], 0),
  (239, 241, .iload 12, 1, 0, 12, [], 0),
  (241, 244, .ifCond .eq 8, 14, 249, 0, [], 0),
  (244, 246, .iload 11, 1, 0, 11, [], 0),
  (246, 249, .goto 5, 16, 251, 0, [], 0),
  (249, 251, .iload 10, 1, 0, 10, [], 0),
  (251, 253, .istore 10, 2, 0, 10, [], 0),
  (253, 256, .iinc 11 (-1), 3, (-1), 11, [], 0),
  (256, 259, .goto (-52), 16, 204, 0, [], 0),
  (259, 260, .aload_n 0, 1, 1, 0, [], 0),
  (260, 262, .iload 5, 1, 0, 5, [], 0),
  (262, 263, .iconst 3, 0, 0, 3, [], 0),
  (263, 266, .if_icmp .ne 8, 15, 271, 1, [], 0),
  (266, 268, .iload 9, 1, 0, 9, [], 0),
  (268, 271, .goto 5, 16, 273, 0, [], 0),
  (271, 273, .iload 10, 1, 0, 10, [], 0),
  (273, 276, .invokevirtual 66, 27, 0, 129, [], 919),
  (276, 277, .ireturn, 29, 0, 0, [], 0)]
/-- PuddingHobsModel.fits(IIIII)I -/
def hm_T189 : hm_X := (yX8_fits, prog_10_method_68_code, 13, (some .int), false, 6, [1147, 64, 1145, 1146], hm_P189)
def hm_P190 : List hm_I := [
  (0, 1, .aload_n 0, 1, 1, 0, [], 0),
  (1, 2, .iload_n 1, 1, 0, 1, [], 0),
  (2, 5, .invokevirtual 186, 27, 0, 152, [], 1048),
  (5, 8, .ifCond .eq 33, 14, 38, 0, [], 0),
  (8, 9, .iload_n 2, 1, 0, 2, [], 0),
  (9, 10, .iconst 0, 0, 0, 0, [], 0),
  (10, 12, .bipush 30, 0, 0, 30, [], 0),
  (12, 15, .invokestatic 53, 27, 0, 124, [], 910),
  (15, 18, .ifCond .eq 23, 14, 38, 0, [], 0),
  (18, 19, .iload_n 3, 1, 0, 3, [], 0),
  (19, 20, .iconst 0, 0, 0, 0, [], 0),
  (20, 22, .bipush 10, 0, 0, 10, [], 0),
  (22, 25, .invokestatic 53, 27, 0, 124, [], 910),
  (25, 28, .ifCond .eq 13, 14, 38, 0, [], 0),
  (28, 30, .iload 4, 1, 0, 4, [], 0),
  (30, 31, .iconst 0, 0, 0, 0, [], 0),
  (31, 32, .iconst 1, 0, 0, 1, [], 0),
  (32, 35, .invokestatic 53, 27, 0, 124, [], 910),
  (35, 38, .ifCond .ne 6, 14, 41, 1, [], 0),
  (38, 40, .ldc 61, 31, (-1000001), 0, [], 913),
  (40, 41, .ireturn, 29, 0, 0, [], 0),
  (41, 42, .iconst 0, 0, 0, 0, [], 0),
  (42, 44, .istore 5, 2, 0, 5, [], 0),
  (44, 45, .iconst 1, 0, 0, 1, [], 0),
  (45, 47, .istore 6, 2, 0, 6, [], 0),
  (47, 48, .iconst 0, 0, 0, 0, [], 0),
  (48, 50, .istore 7, 2, 0, 7, [], 0),
  (50, 52, .iload 7, 1, 0, 7, [], 0),
  (52, 53, .aload_n 0, 1, 1, 0, [], 0),
  (53, 56, .getfield 25, 18, 8, 13, [], 848),
  (56, 57, .iconst 2, 0, 0, 2, [], 0),
  (57, 58, .iaload, 20, 0, 0, [], 0),
  (58, 61, .if_icmp .ge 16, 15, 74, 3, [], 0),
  (61, 63, .iload 6, 1, 0, 6, [], 0),
  (63, 65, .bipush 10, 0, 0, 10, [], 0),
  (65, 66, .imul, 4, 0, 2, [], 0),
  (66, 68, .istore 6, 2, 0, 6, [], 0),
  (68, 71, .iinc 7 1, 3, 1, 7, [], 0),
  (71, 74, .goto (-21), 16, 50, 0, [], 0),
  (74, 75, .iconst 0, 0, 0, 0, [], 0),
  (75, 77, .istore 7, 2, 0, 7, [], 0),
  (77, 79, .iload 7, 1, 0, 7, [], 0),
  (79, 80, .iconst 1, 0, 0, 1, [], 0),
  (80, 81, .aload_n 0, 1, 1, 0, [], 0),
  (81, 84, .getfield 25, 18, 8, 13, [], 848),
  (84, 85, .iconst 2, 0, 0, 2, [], 0),
  (85, 86, .iaload, 20, 0, 0, [], 0),
  (86, 87, .ishl, 4, 0, 6, [], 0),
  (87, 90, .if_icmp .ge 141, 15, 228, 3, [], 0),
  (90, 91, .iconst 1, 0, 0, 1, [], 0),
  (91, 93, .istore 8, 2, 0, 8, [], 0),
  (93, 94, .aload_n 0, 1, 1, 0, [], 0),
  (94, 97, .getfield 25, 18, 8, 13, [], 848),
  (97, 98, .iconst 0, 0, 0, 0, [], 0),
  (98, 99, .aload_n 0, 1, 1, 0, [], 0),
  (99, 102, .getfield 31, 18, 8, 15, [], 850),
  (102, 103, .iconst 0, 0, 0, 0, [], 0),
  (103, 106, .invokestatic 132, 27, 0, 130, [], 991),
  (106, 107, .iconst 0, 0, 0, 0, [], 0),
  (107, 109, .istore 9, 2, 0, 9, [], 0),
  (109, 111, .iload 9, 1, 0, 9, [], 0),
  (111, 112, .aload_n 0, 1, 1, 0, [], 0),
  (112, 115, .getfield 25, 18, 8, 13, [], 848),
  (115, 116, .iconst 2, 0, 0, 2, [], 0),
  (116, 117, .iaload, 20, 0, 0, [], 0),
  (117, 120, .if_icmp .ge 72, 15, 189, 3, [], 0),
  (120, 122, .iload 8, 1, 0, 8, [], 0),
  (122, 124, .iload 7, 1, 0, 7, [], 0),
  (124, 126, .iload 9, 1, 0, 9, [], 0),
  (126, 129, .invokestatic 146, 27, 0, 125, [], 1032),
  (129, 132, .ifCond .eq 7, 14, 136, 0, [], 0),
  (132, 133, .iload_n 3, 1, 0, 3, [], 0),
  (133, 136, .goto 7, 16, 140, 0, [], 0),
  (136, 138, .bipush 10, 0, 0, 10, [], 0),
  (138, 139, .iload_n 3, 1, 0, 3, [], 0),
  (139, 140, .isub, 4, 0, 1, [], 0),
  (140, 141, .imul, 4, 0, 2, [], 0),
  (141, 143, .istore 8, 2, 0, 8, [], 0),
  (143, 145, .iload 7, 1, 0, 7, [], 0),
  (145, 147, .iload 9, 1, 0, 9, [], 0),
  (147, 150, .invokestatic 146, 27, 0, 125, [], 1032),
  (150, 153, .ifCond .eq 33, 14, 183, 0, [], 0),
  (153, 154, .aload_n 0, 1, 1, 0, [], 0),
  (154, 157, .getfield 31, 18, 8, 15, [], 850),
  (157, 158, .iconst 4, 0, 0, 4, [], 0),
  (158, 160, .bipush 7, 0, 0, 7, [], 0),
  (160, 162, .iload 9, 1, 0, 9, [], 0),
  (162, 163, .imul, 4, 0, 2, [], 0),
  (163, 164, .iadd, 4, 0, 0, [], 0),
  (164, 165, .iconst 4, 0, 0, 4, [], 0),
  (165, 166, .iadd, 4, 0, 0, [], 0),
  (166, 167, .iconst 0, 0, 0, 0, [], 0),
  (167, 168, .iastore, 21, 0, 0, [], 0),
  (168, 169, .aload_n 0, 1, 1, 0, [], 0),
  (169, 172, .getfield 31, 18, 8, 15, [], 850),
  (172, 173, .iconst 4, 0, 0, 4, [], 0),
  (173, 175, .bipush 7, 0, 0, 7, [], 0),
  (175, 177, .iload 9, 1, 0, 9, [], 0),
  (177, 178, .imul, 4, 0, 2, [], 0),
  (178, 179, .iadd, 4, 0, 0, [], 0),
  (179, 180, .iconst 2, 0, 0, 2, [], 0),
  (180, 181, .iadd, 4, 0, 0, [], 0),
  (181, 182, .iconst 0, 0, 0, 0, [], 0),
  (182, 183, .iastore, 21, 0, 0, [], 0),
  (183, 186, .iinc 9 1, 3, 1, 9, [], 0),
  (186, 189, .goto (-77), 16, 109, 0, [], 0),
  (189, 190, .aload_n 0, 1, 1, 0, [], 0),
  (190, 191, .iload_n 2, 1, 0, 2, [], 0),
  (191, 194, .invokevirtual 198, 27, 0, 175, [], 1094),
  (194, 196, .iload 5, 1, 0, 5, [], 0),
  (196, 197, .aload_n 0, 1, 1, 0, [], 0),
  (197, 200, .getfield 31, 18, 8, 15, [], 850),
  (200, 201, .iconst 4, 0, 0, 4, [], 0),
  (201, 203, .bipush 7, 0, 0, 7, [], 0),
  (203, 204, .iload_n 1, 1, 0, 1, [], 0),
  (204, 205, .imul, 4, 0, 2, [], 0),
  (205, 206, .iadd, 4, 0, 0, [], 0),
  (206, 207, .iconst 5, 0, 0, 5, [], 0),
  (207, 208, .iadd, 4, 0, 0, [], 0),
  (208, 209, .iaload, 20, 0, 0, [], 0),
  (209, 210, .iconst 1, 0, 0, 1, [], 0),
  (210, 213, .if_icmp .ne 8, 15, 218, 1, [], 0),
  (213, 215, .iload 8, 1, 0, 8, [], 0),
  (215, 218, .goto 4, 16, 219, 0, [], 0),
  (218, 219, .iconst 0, 0, 0, 0, [], 0),
  (219, 220, .iadd, 4, 0, 0, [], 0),
  (220, 222, .istore 5, 2, 0, 5, [], 0),
  (222, 225, .iinc 7 1, 3, 1, 7, [], 0),
  (225, 228, .goto (-148), 16, 77, 0, [], 0),
  (228, 230, .iload 5, 1, 0, 5, [], 0),
  (230, 232, .istore 7, 2, 0, 7, [], 0),
  (232, 234, .iload 6, 1, 0, 6, [], 0),
  (234, 236, .istore 8, 2, 0, 8, [], 0),
  (236, 238, .iload 8, 1, 0, 8, [], 0),
  (238, 241, .ifCond .eq 21, 14, 259, 0, [], 0),
  (241, 243, .iload 7, 1, 0, 7, [], 0),
  (243, 245, .iload 8, 1, 0, 8, [], 0),
  (245, 246, .irem, 6, 0, 0, [], 0),
  (246, 248, .istore 9, 2, 0, 9, [], 0),
  (248, 250, .iload 8, 1, 0, 8, [], 0),
  (250, 252, .istore 7, 2, 0, 7, [], 0),
  (252, 254, .iload 9, 1, 0, 9, [], 0),
  (254, 256, .istore 8, 2, 0, 8, [], 0),
  (256, 259, .goto (-20), 16, 236, 0, [], 0),
  (259, 261, .iload 4, 1, 0, 4, [], 0),
  (261, 264, .ifCond .ne 8, 14, 269, 1, [], 0),
  (264, 266, .iload 5, 1, 0, 5, [], 0),
  (266, 269, .goto 5, 16, 271, 0, [], 0),
  (269, 271, .iload 6, 1, 0, 6, [], 0),
  (271, 273, .iload 7, 1, 0, 7, [], 0),
  (273, 274, .idiv, 5, 0, 0, [], 0),
  (274, 275, .ireturn, 29, 0, 0, [], 0)]
/-- PuddingHobsModel.mice(IIII)I -/
def hm_T190 : hm_X := (yX8_mice, prog_10_method_69_code, 10, (some .int), false, 5, [1155, 64, 1153, 1154], hm_P190)
def hm_P191 : List hm_I := [
  (0, 1, .aload_n 0, 1, 1, 0, [], 0),
  (1, 4, .invokevirtual 172, 27, 0, 151, [], 1002),
  (4, 7, .ifCond .ne 6, 14, 10, 1, [], 0),
  (7, 9, .ldc 175, 31, (-1000002), 0, [], 1006),
  (9, 10, .ireturn, 29, 0, 0, [], 0),
  (10, 11, .iload_n 1, 1, 0, 1, [], 0),
  (11, 12, .iconst 0, 0, 0, 0, [], 0),
  (12, 14, .bipush 60, 0, 0, 60, [], 0),
  (14, 17, .invokestatic 53, 27, 0, 124, [], 910),
  (17, 20, .ifCond .eq 22, 14, 39, 0, [], 0),
  (20, 21, .iload_n 2, 1, 0, 2, [], 0),
  (21, 22, .iconst 1, 0, 0, 1, [], 0),
  (22, 24, .ldc 218, 0, 0, 999999, [], 1160),
  (24, 27, .invokestatic 53, 27, 0, 124, [], 910),
  (27, 30, .ifCond .eq 12, 14, 39, 0, [], 0),
  (30, 31, .iload_n 3, 1, 0, 3, [], 0),
  (31, 32, .iconst 0, 0, 0, 0, [], 0),
  (32, 33, .iconst 1, 0, 0, 1, [], 0),
  (33, 36, .invokestatic 53, 27, 0, 124, [], 910),
  (36, 39, .ifCond .ne 6, 14, 42, 1, [], 0),
  (39, 41, .ldc 61, 31, (-1000001), 0, [], 913),
  (41, 42, .ireturn, 29, 0, 0, [], 0),
  (42, 43, .aload_n 0, 1, 1, 0, [], 0),
  (43, 46, .getfield 25, 18, 8, 13, [], 848),
  (46, 47, .iconst 0, 0, 0, 0, [], 0),
  (47, 48, .aload_n 0, 1, 1, 0, [], 0),
  (48, 51, .getfield 31, 18, 8, 15, [], 850),
  (51, 52, .iconst 0, 0, 0, 0, [], 0),
  (52, 55, .invokestatic 132, 27, 0, 130, [], 991),
  (55, 56, .iload_n 2, 1, 0, 2, [], 0),
  (56, 57, .i2l, 8, 0, 0, [], 0),
  (57, 59, .lstore 4, 2, 2, 4, [], 0),
  (59, 60, .iconst 0, 0, 0, 0, [], 0),
  (60, 62, .istore 6, 2, 0, 6, [], 0),
  (62, 64, .iload 6, 1, 0, 6, [], 0),
  (64, 65, .iload_n 1, 1, 0, 1, [], 0),
  (65, 68, .if_icmp .ge 118, 15, 183, 3, [], 0),
  (68, 70, .lload 4, 1, 2, 4, [], 0),
  (70, 73, .ldc2_w 219, 10, 0, 16807, [], 1161),
  (73, 74, .lmul, 11, 0, 0, [], 0),
  (74, 77, .ldc2_w 221, 10, 0, 2147483647, [], 1162),
  (77, 78, .lrem, 12, 0, 0, [], 0),
  (78, 80, .lstore 4, 2, 2, 4, [], 0),
  (80, 81, .aload_n 0, 1, 1, 0, [], 0),
  (81, 84, .getfield 31, 18, 8, 15, [], 850),
  (84, 85, .iconst 0, 0, 0, 0, [], 0),
  (85, 87, .lload 4, 1, 2, 4, [], 0),
  (87, 90, .ldc2_w 223, 10, 0, 10, [], 1163),
  (90, 91, .lrem, 12, 0, 0, [], 0),
  (91, 92, .l2i, 9, 0, 0, [], 0),
  (92, 93, .iastore, 21, 0, 0, [], 0),
  (93, 95, .lload 4, 1, 2, 4, [], 0),
  (95, 96, .aload_n 0, 1, 1, 0, [], 0),
  (96, 99, .getfield 25, 18, 8, 13, [], 848),
  (99, 100, .iconst 2, 0, 0, 2, [], 0),
  (100, 101, .iaload, 20, 0, 0, [], 0),
  (101, 102, .i2l, 8, 0, 0, [], 0),
  (102, 103, .lrem, 12, 0, 0, [], 0),
  (103, 104, .l2i, 9, 0, 0, [], 0),
  (104, 106, .istore 7, 2, 0, 7, [], 0),
  (106, 107, .iconst 4, 0, 0, 4, [], 0),
  (107, 109, .bipush 7, 0, 0, 7, [], 0),
  (109, 111, .iload 7, 1, 0, 7, [], 0),
  (111, 112, .imul, 4, 0, 2, [], 0),
  (112, 113, .iadd, 4, 0, 0, [], 0),
  (113, 115, .istore 8, 2, 0, 8, [], 0),
  (115, 117, .lload 4, 1, 2, 4, [], 0),
  (117, 120, .ldc2_w 225, 10, 0, 2, [], 1164),
  (120, 121, .lrem, 12, 0, 0, [], 0),
  (121, 122, .lconst 0, 10, 0, 0, [], 0),
  (122, 123, .lcmp, 13, 0, 0, [], 0),
  (123, 126, .ifCond .ne 27, 14, 150, 1, [], 0),
  (126, 127, .aload_n 0, 1, 1, 0, [], 0),
  (127, 130, .getfield 31, 18, 8, 15, [], 850),
  (130, 132, .iload 8, 1, 0, 8, [], 0),
  (132, 133, .iconst 5, 0, 0, 5, [], 0),
  (133, 134, .iadd, 4, 0, 0, [], 0),
  (134, 135, .iaload, 20, 0, 0, [], 0),
  (135, 138, .ifCond .ne 15, 14, 150, 1, [], 0),
  (138, 139, .aload_n 0, 1, 1, 0, [], 0),
  (139, 142, .getfield 31, 18, 8, 15, [], 850),
  (142, 144, .iload 7, 1, 0, 7, [], 0),
  (144, 147, .invokestatic 192, 27, 0, 163, [], 1056),
  (147, 150, .goto 23, 16, 170, 0, [], 0),
  (150, 151, .aload_n 0, 1, 1, 0, [], 0),
  (151, 154, .getfield 31, 18, 8, 15, [], 850),
  (154, 156, .iload 8, 1, 0, 8, [], 0),
  (156, 157, .iconst 4, 0, 0, 4, [], 0),
  (157, 158, .iadd, 4, 0, 0, [], 0),
  (158, 159, .iconst 1, 0, 0, 1, [], 0),
  (159, 160, .aload_n 0, 1, 1, 0, [], 0),
  (160, 163, .getfield 31, 18, 8, 15, [], 850),
  (163, 165, .iload 8, 1, 0, 8, [], 0),
  (165, 166, .iconst 4, 0, 0, 4, [], 0),
  (166, 167, .iadd, 4, 0, 0, [], 0),
  (167, 168, .iaload, 20, 0, 0, [], 0),
  (168, 169, .isub, 4, 0, 1, [], 0),
  (169, 170, .iastore, 21, 0, 0, [], 0),
  (170, 171, .aload_n 0, 1, 1, 0, [], 0),
  (171, 174, .getfield 31, 18, 8, 15, [], 850),
  (174, 177, .invokestatic 179, 27, 0, 162, [], 1011),
  (177, 180, .iinc 6 1, 3, 1, 6, [], 0),
  (180, 183, .goto (-118), 16, 62, 0, [], 0),
  (183, 184, .iconst 0, 0, 0, 0, [], 0),
  (184, 186, .istore 6, 2, 0, 6, [], 0),
  (186, 187, .iconst 0, 0, 0, 0, [], 0),
  (187, 189, .istore 7, 2, 0, 7, [], 0),
  (189, 191, .iload 7, 1, 0, 7, [], 0),
  (191, 192, .aload_n 0, 1, 1, 0, [], 0),
  (192, 195, .getfield 25, 18, 8, 13, [], 848),
  (195, 196, .iconst 2, 0, 0, 2, [], 0),
  (196, 197, .iaload, 20, 0, 0, [], 0),
  (197, 200, .if_icmp .ge 50, 15, 247, 3, [], 0),
  (200, 202, .iload 6, 1, 0, 6, [], 0),
  (202, 203, .aload_n 0, 1, 1, 0, [], 0),
  (203, 206, .getfield 31, 18, 8, 15, [], 850),
  (206, 207, .iconst 4, 0, 0, 4, [], 0),
  (207, 209, .bipush 7, 0, 0, 7, [], 0),
  (209, 211, .iload 7, 1, 0, 7, [], 0),
  (211, 212, .imul, 4, 0, 2, [], 0),
  (212, 213, .iadd, 4, 0, 0, [], 0),
  (213, 214, .iconst 5, 0, 0, 5, [], 0),
  (214, 215, .iadd, 4, 0, 0, [], 0),
  (215, 216, .iaload, 20, 0, 0, [], 0),
  (216, 217, .iconst 1, 0, 0, 1, [], 0),
  (217, 220, .if_icmp .ne 7, 15, 224, 1, [], 0),
  (220, 221, .iconst 0, 0, 0, 0, [], 0),
  (221, 224, .goto 17, 16, 238, 0, [], 0),
  (224, 225, .aload_n 0, 1, 1, 0, [], 0),
  (225, 228, .getfield 31, 18, 8, 15, [], 850),
  (228, 229, .iconst 4, 0, 0, 4, [], 0),
  (229, 231, .bipush 7, 0, 0, 7, [], 0),
  (231, 233, .iload 7, 1, 0, 7, [], 0),
  (233, 234, .imul, 4, 0, 2, [], 0),
  (234, 235, .iadd, 4, 0, 0, [], 0),
  (235, 236, .iconst 2, 0, 0, 2, [], 0),
  (236, 237, .iadd, 4, 0, 0, [], 0),
  (237, 238, .iaload, 20, 0, 0, [], 0),
  (238, 239, .iadd, 4, 0, 0, [], 0),
  (239, 241, .istore 6, 2, 0, 6, [], 0),
  (241, 244, .iinc 7 1, 3, 1, 7, [], 0),
  (244, 247, .goto (-55), 16, 189, 0, [], 0),
  (247, 248, .iload_n 3, 1, 0, 3, [], 0),
  (248, 251, .ifCond .ne 17, 14, 265, 1, [], 0),
  (251, 252, .aload_n 0, 1, 1, 0, [], 0),
  (252, 255, .getfield 31, 18, 8, 15, [], 850),
  (255, 256, .iconst 5, 0, 0, 5, [], 0),
  (256, 259, .invokestatic 183, 27, 0, 156, [], 1041),
  (259, 262, .invokestatic 205, 27, 0, 126, [], 1121),
  (262, 265, .goto 5, 16, 267, 0, [], 0),
  (265, 267, .iload 6, 1, 0, 6, [], 0),
  (267, 268, .ireturn, 29, 0, 0, [], 0)]
/-- PuddingHobsModel.drawn(III)I -/
def hm_T191 : hm_X := (yX8_drawn, prog_10_method_70_code, 9, (some .int), false, 4, [1159, 64, 1157, 1158], hm_P191)
def hm_P192 : List hm_I := [
  (0, 1, .iload_n 1, 1, 0, 1, [], 0),
  (1, 2, .iconst 0, 0, 0, 0, [], 0),
  (2, 3, .iconst 1, 0, 0, 1, [], 0),
  (3, 6, .invokestatic 53, 27, 0, 124, [], 910),
  (6, 9, .ifCond .ne 6, 14, 12, 1, [], 0),
  (9, 11, .ldc 61, 31, (-1000001), 0, [], 913),
  (11, 12, .ireturn, 29, 0, 0, [], 0),
  (12, 13, .aload_n 0, 1, 1, 0, [], 0),
  (13, 16, .invokevirtual 172, 27, 0, 151, [], 1002),
  (16, 19, .ifCond .ne 6, 14, 22, 1, [], 0),
  (19, 21, .ldc 175, 31, (-1000002), 0, [], 1006),
  (21, 22, .ireturn, 29, 0, 0, [], 0),
  (22, 23, .aload_n 0, 1, 1, 0, [], 0),
  (23, 26, .getfield 25, 18, 8, 13, [], 848),
  (26, 27, .iconst 0, 0, 0, 0, [], 0),
  (27, 28, .aload_n 0, 1, 1, 0, [], 0),
  (28, 31, .getfield 37, 18, 8, 18, [], 853),
  (31, 33, .bipush 53, 0, 0, 53, [], 0),
  (33, 34, .iload_n 1, 1, 0, 1, [], 0),
  (34, 35, .imul, 4, 0, 2, [], 0),
  (35, 38, .invokestatic 132, 27, 0, 130, [], 991),
  (38, 39, .aload_n 0, 1, 1, 0, [], 0),
  (39, 42, .getfield 40, 18, 8, 19, [], 854),
  (42, 43, .iload_n 1, 1, 0, 1, [], 0),
  (43, 44, .iconst 1, 0, 0, 1, [], 0),
  (44, 45, .bastore, 21, 0, 1, [], 0),
  (45, 46, .iconst 1, 0, 0, 1, [], 0),
  (46, 47, .ireturn, 29, 0, 0, [], 0)]
/-- PuddingHobsModel.image(I)I -/
def hm_T192 : hm_X := (yX8_image, prog_10_method_71_code, 2, (some .int), false, 2, [1168, 64, 1166, 1167], hm_P192)
def hm_P193 : List hm_I := [
  (0, 1, .iload_n 1, 1, 0, 1, [], 0),
  (1, 2, .iconst 0, 0, 0, 0, [], 0),
  (2, 3, .iconst 1, 0, 0, 1, [], 0),
  (3, 6, .invokestatic 53, 27, 0, 124, [], 910),
  (6, 9, .ifCond .ne 6, 14, 12, 1, [], 0),
  (9, 11, .ldc 61, 31, (-1000001), 0, [], 913),
  (11, 12, .ireturn, 29, 0, 0, [], 0),
  (12, 13, .aload_n 0, 1, 1, 0, [], 0),
  (13, 16, .getfield 40, 18, 8, 19, [], 854),
  (16, 17, .iload_n 1, 1, 0, 1, [], 0),
  (17, 18, .baload, 20, 0, 1, [], 0),
  (18, 21, .ifCond .ne 6, 14, 24, 1, [], 0),
  (21, 23, .ldc 175, 31, (-1000002), 0, [], 1006),
  (23, 24, .ireturn, 29, 0, 0, [], 0),
  (24, 25, .aload_n 0, 1, 1, 0, [], 0),
  (25, 28, .getfield 37, 18, 8, 18, [], 853),
  (28, 30, .bipush 53, 0, 0, 53, [], 0),
  (30, 31, .iload_n 1, 1, 0, 1, [], 0),
  (31, 32, .imul, 4, 0, 2, [], 0),
  (32, 33, .aload_n 0, 1, 1, 0, [], 0),
  (33, 36, .getfield 25, 18, 8, 13, [], 848),
  (36, 37, .iconst 0, 0, 0, 0, [], 0),
  (37, 40, .invokestatic 132, 27, 0, 130, [], 991),
  (40, 41, .aload_n 0, 1, 1, 0, [], 0),
  (41, 42, .iconst 0, 0, 0, 0, [], 0),
  (42, 45, .putfield 136, 19, 8, 17, [], 852),
  (45, 46, .iconst 1, 0, 0, 1, [], 0),
  (46, 47, .ireturn, 29, 0, 0, [], 0)]
/-- PuddingHobsModel.restore(I)I -/
def hm_T193 : hm_X := (yX8_restore, prog_10_method_72_code, 2, (some .int), false, 2, [1172, 64, 1170, 1171], hm_P193)
def hm_P194 : List hm_I := [
  (0, 1, .aload_n 0, 1, 1, 0, [], 0),
  (1, 4, .getfield 25, 18, 8, 13, [], 848),
  (4, 5, .iconst 4, 0, 0, 4, [], 0),
  (5, 7, .bipush 7, 0, 0, 7, [], 0),
  (7, 8, .iload_n 1, 1, 0, 1, [], 0),
  (8, 9, .imul, 4, 0, 2, [], 0),
  (9, 10, .iadd, 4, 0, 0, [], 0),
  (10, 11, .iaload, 20, 0, 0, [], 0),
  (11, 12, .ireturn, 29, 0, 0, [], 0)]
/-- PuddingHobsModel.kindIn(I)I -/
def hm_T194 : hm_X := (yX8_kindIn, prog_10_method_73_code, 2, (some .int), false, 2, [1180, 64, 1179, 49], hm_P194)
def hm_P195 : List hm_I := [
  (0, 1, .aload_n 0, 1, 1, 0, [], 0),
  (1, 2, .iload_n 1, 1, 0, 1, [], 0),
  (2, 5, .invokevirtual 186, 27, 0, 152, [], 1048),
  (5, 8, .ifCond .eq 11, 14, 16, 0, [], 0),
  (8, 9, .aload_n 0, 1, 1, 0, [], 0),
  (9, 10, .iload_n 1, 1, 0, 1, [], 0),
  (10, 13, .invokevirtual 227, 27, 0, 194, [], 1177),
  (13, 16, .goto 5, 16, 18, 0, [], 0),
  (16, 18, .ldc 61, 31, (-1000001), 0, [], 913),
  (18, 19, .ireturn, 29, 0, 0, [], 0)]
/-- PuddingHobsModel.kind(I)I -/
def hm_T195 : hm_X := (yX8_kind, prog_10_method_74_code, 2, (some .int), false, 2, [1176, 64, 1174, 1175], hm_P195)
def hm_P196 : List hm_I := [
  (0, 1, .aload_n 0, 1, 1, 0, [], 0),
  (1, 2, .iload_n 1, 1, 0, 1, [], 0),
  (2, 5, .invokevirtual 186, 27, 0, 152, [], 1048),
  (5, 8, .ifCond .eq 12, 14, 17, 0, [], 0),
  (8, 9, .iload_n 2, 1, 0, 2, [], 0),
  (9, 10, .iconst 0, 0, 0, 0, [], 0),
  (10, 11, .iconst 5, 0, 0, 5, [], 0),
  (11, 14, .invokestatic 53, 27, 0, 124, [], 910),
  (14, 17, .ifCond .ne 6, 14, 20, 1, [], 0),
  (17, 19, .ldc 61, 31, (-1000001), 0, [], 913),
  (19, 20, .ireturn, 29, 0, 0, [], 0),
  (20, 21, .aload_n 0, 1, 1, 0, [], 0),
  (21, 22, .iload_n 1, 1, 0, 1, [], 0),
  (22, 25, .invokevirtual 227, 27, 0, 194, [], 1177),
  (25, 26, .istore_n 3, 2, 0, 3, [], 0),
  (26, 27, .iload_n 2, 1, 0, 2, [], 0),
  (27, 30, .ifCond .eq 28, 14, 55, 0, [], 0),
  (30, 31, .iload_n 2, 1, 0, 2, [], 0),
  (31, 32, .iload_n 3, 1, 0, 3, [], 0),
  (32, 35, .if_icmp .eq 23, 15, 55, 0, [], 0),
  (35, 36, .iload_n 2, 1, 0, 2, [], 0),
  (36, 37, .iconst 1, 0, 0, 1, [], 0),
  (37, 40, .if_icmp .ne 8, 15, 45, 1, [], 0),
  (40, 41, .iload_n 3, 1, 0, 3, [], 0),
  (41, 42, .iconst 4, 0, 0, 4, [], 0),
  (42, 45, .if_icmp .lt 13, 15, 55, 2, [], 0),
  (45, 46, .iload_n 2, 1, 0, 2, [], 0),
  (46, 47, .iconst 4, 0, 0, 4, [], 0),
  (47, 50, .if_icmp .ne 12, 15, 59, 1, [], 0),
  (50, 51, .iload_n 3, 1, 0, 3, [], 0),
  (51, 52, .iconst 5, 0, 0, 5, [], 0),
  (52, 55, .if_icmp .ne 7, 15, 59, 1, [], 0),
  (55, 56, .iconst 1, 0, 0, 1, [], 0),
  (56, 59, .goto 4, 16, 60, 0, [], 0),
  (59, 60, .iconst 0, 0, 0, 0, [], 0),
  (60, 62, .istore 4, 2, 0, 4, [], 0),
  (62, 64, .iload 4, 1, 0, 4, [], 0),
  (64, 67, .ifCond .eq 11, 14, 75, 0, [], 0),
  (67, 68, .aload_n 0, 1, 1, 0, [], 0),
  (68, 69, .iload_n 1, 1, 0, 1, [], 0),
  (69, 72, .invokevirtual 66, 27, 0, 129, [], 919),
  (72, 75, .goto 8, 16, 80, 0, [], 0),
  (75, 76, .aload_n 0, 1, 1, 0, [], 0),
  (76, 77, .iconst 3, 0, 0, 3, [], 0),
  (77, 80, .invokevirtual 62, 27, 0, 128, [], 914),
  (80, 81, .ireturn, 29, 0, 0, [], 0)]
/-- PuddingHobsModel.as(II)I -/
def hm_T196 : hm_X := (yX8_as, prog_10_method_75_code, 5, (some .int), false, 3, [1184, 64, 1182, 1183], hm_P196)
def hm_P197 : List hm_I := [
  (0, 1, .aload_n 0, 1, 1, 0, [], 0),
  (1, 4, .getfield 230, 18, 8, 21, [], 856),
  (4, 6, .bipush 16, 0, 0, 16, [], 0),
  (6, 9, .if_icmp .ge 23, 15, 29, 3, [], 0),
  (9, 10, .aload_n 0, 1, 1, 0, [], 0),
  (10, 13, .getfield 44, 18, 8, 20, [], 855),
  (13, 14, .aload_n 0, 1, 1, 0, [], 0),
  (14, 17, .getfield 230, 18, 8, 21, [], 856),
  (17, 18, .iload_n 1, 1, 0, 1, [], 0),
  (18, 19, .iastore, 21, 0, 0, [], 0),
  (19, 20, .aload_n 0, 1, 1, 0, [], 0),
  (20, 21, .dup, 24, 0, 0, [], 0),
  (21, 24, .getfield 230, 18, 8, 21, [], 856),
  (24, 25, .iconst 1, 0, 0, 1, [], 0),
  (25, 26, .iadd, 4, 0, 0, [], 0),
  (26, 29, .putfield 230, 19, 8, 21, [], 856),
  (29, 30, .return_, 30, 0, 0, [], 0)]
/-- PuddingHobsModel.begins(I)V -/
def hm_T197 : hm_X := (yX8_begins, prog_10_method_76_code, 2, none, false, 2, [1196, 64, 1195, 51], hm_P197)
def hm_P198 : List hm_I := [
  (0, 1, .aload_n 0, 1, 1, 0, [], 0),
  (1, 2, .iload_n 1, 1, 0, 1, [], 0),
  (2, 5, .invokevirtual 227, 27, 0, 194, [], 1177),
  (5, 6, .istore_n 2, 2, 0, 2, [], 0),
  (6, 7, .iload_n 2, 1, 0, 2, [], 0),
  (7, 8, .iconst 1, 0, 0, 1, [], 0),
  (8, 11, .if_icmp .eq 19, 15, 27, 0, [], 0),
  (11, 12, .aload_n 0, 1, 1, 0, [], 0),
  (12, 13, .iload_n 2, 1, 0, 2, [], 0),
  (13, 14, .iconst 2, 0, 0, 2, [], 0),
  (14, 17, .if_icmp .ne 8, 15, 22, 1, [], 0),
  (17, 19, .bipush 24, 0, 0, 24, [], 0),
  (19, 22, .goto 5, 16, 24, 0, [], 0),
  (22, 24, .bipush 22, 0, 0, 22, [], 0),
  (24, 27, .invokevirtual 233, 27, 0, 197, [], 1193),
  (27, 28, .aload_n 0, 1, 1, 0, [], 0),
  (28, 30, .bipush 21, 0, 0, 21, [], 0),
  (30, 33, .invokevirtual 233, 27, 0, 197, [], 1193),
  (33, 34, .aload_n 0, 1, 1, 0, [], 0),
  (34, 36, .bipush 20, 0, 0, 20, [], 0),
  (36, 39, .invokevirtual 233, 27, 0, 197, [], 1193),
  (39, 40, .iload_n 1, 1, 0, 1, [], 0),
  (40, 41, .aload_n 0, 1, 1, 0, [], 0),
  (41, 44, .getfield 25, 18, 8, 13, [], 848),
  (44, 45, .iconst 4, 0, 0, 4, [], 0),
  (45, 47, .bipush 7, 0, 0, 7, [], 0),
  (47, 48, .iload_n 1, 1, 0, 1, [], 0),
  (48, 49, .imul, 4, 0, 2, [], 0),
  (49, 50, .iadd, 4, 0, 0, [], 0),
  (50, 51, .iconst 2, 0, 0, 2, [], 0),
  (51, 52, .iadd, 4, 0, 0, [], 0),
  (52, 53, .iaload, 20, 0, 0, [], 0),
  (53, 54, .iadd, 4, 0, 0, [], 0),
  (54, 55, .istore_n 3, 2, 0, 3, [], 0),
  (55, 56, .iload_n 2, 1, 0, 2, [], 0),
  (56, 57, .iconst 2, 0, 0, 2, [], 0),
  (57, 60, .if_icmp .ne 9, 15, 66, 1, [], 0),
  (60, 61, .iconst 2, 0, 0, 2, [], 0),
  (61, 62, .iload_n 3, 1, 0, 3, [], 0),
  (62, 63, .imul, 4, 0, 2, [], 0),
  (63, 66, .goto 17, 16, 80, 0, [], 0),
  (66, 67, .iload_n 2, 1, 0, 2, [], 0),
  (67, 68, .iconst 3, 0, 0, 3, [], 0),
  (68, 71, .if_icmp .ne 11, 15, 79, 1, [], 0),
  (71, 72, .iload_n 3, 1, 0, 3, [], 0),
  (72, 75, .sipush 1000, 0, 0, 1000, [], 0),
  (75, 76, .isub, 4, 0, 1, [], 0),
  (76, 79, .goto 4, 16, 80, 0, [], 0),
  (79, 80, .iload_n 3, 1, 0, 3, [], 0),
  (80, 81, .ireturn, 29, 0, 0, [], 0)]
/-- PuddingHobsModel.plainMark(I)I -/
def hm_T198 : hm_X := (yX8_plainMark, prog_10_method_77_code, 4, (some .int), false, 2, [1204, 64, 1203, 53], hm_P198)
def hm_P199 : List hm_I := [
  (0, 1, .aload_n 0, 1, 1, 0, [], 0),
  (1, 2, .iload_n 1, 1, 0, 1, [], 0),
  (2, 5, .invokevirtual 227, 27, 0, 194, [], 1177),
  (5, 6, .iconst 5, 0, 0, 5, [], 0),
  (6, 9, .if_icmp .ne 7, 15, 13, 1, [], 0),
  (9, 10, .iconst 1, 0, 0, 1, [], 0),
  (10, 13, .goto 4, 16, 14, 0, [], 0),
  (13, 14, .iconst 0, 0, 0, 0, [], 0),
  (14, 15, .istore_n 2, 2, 0, 2, [], 0),
  (15, 16, .iload_n 2, 1, 0, 2, [], 0),
  (16, 19, .ifCond .eq 9, 14, 25, 0, [], 0),
  (19, 20, .aload_n 0, 1, 1, 0, [], 0),
  (20, 22, .bipush 14, 0, 0, 14, [], 0),
  (22, 25, .invokevirtual 233, 27, 0, 197, [], 1193),
  (25, 26, .aload_n 0, 1, 1, 0, [], 0),
  (26, 28, .bipush 13, 0, 0, 13, [], 0),
  (28, 31, .invokevirtual 233, 27, 0, 197, [], 1193),
  (31, 32, .aload_n 0, 1, 1, 0, [], 0),
  (32, 34, .bipush 10, 0, 0, 10, [], 0),
  (34, 37, .invokevirtual 233, 27, 0, 197, [], 1193),
  (37, 38, .aload_n 0, 1, 1, 0, [], 0),
  (38, 41, .getfield 25, 18, 8, 13, [], 848),
  (41, 42, .iconst 4, 0, 0, 4, [], 0),
  (42, 44, .bipush 7, 0, 0, 7, [], 0),
  (44, 45, .iload_n 1, 1, 0, 1, [], 0),
  (45, 46, .imul, 4, 0, 2, [], 0),
  (46, 47, .iadd, 4, 0, 0, [], 0),
  (47, 48, .iconst 1, 0, 0, 1, [], 0),
  (48, 49, .iadd, 4, 0, 0, [], 0),
  (49, 50, .iaload, 20, 0, 0, [], 0),
  (50, 52, .bipush 100, 0, 0, 100, [], 0),
  (52, 53, .isub, 4, 0, 1, [], 0),
  (53, 54, .istore_n 3, 2, 0, 3, [], 0),
  (54, 55, .iload_n 2, 1, 0, 2, [], 0),
  (55, 58, .ifCond .eq 9, 14, 64, 0, [], 0),
  (58, 59, .iconst 2, 0, 0, 2, [], 0),
  (59, 60, .iload_n 3, 1, 0, 3, [], 0),
  (60, 61, .imul, 4, 0, 2, [], 0),
  (61, 64, .goto 4, 16, 65, 0, [], 0),
  (64, 65, .iload_n 3, 1, 0, 3, [], 0),
  (65, 66, .ireturn, 29, 0, 0, [], 0)]
/-- PuddingHobsModel.blackSize(I)I -/
def hm_T199 : hm_X := (yX8_blackSize, prog_10_method_78_code, 4, (some .int), false, 2, [1192, 64, 1191, 50], hm_P199)
def hm_P200 : List hm_I := [
  (0, 1, .aload_n 0, 1, 1, 0, [], 0),
  (1, 2, .iload_n 1, 1, 0, 1, [], 0),
  (2, 5, .invokevirtual 227, 27, 0, 194, [], 1177),
  (5, 6, .iconst 2, 0, 0, 2, [], 0),
  (6, 9, .if_icmp .ne 7, 15, 13, 1, [], 0),
  (9, 10, .iconst 1, 0, 0, 1, [], 0),
  (10, 13, .goto 4, 16, 14, 0, [], 0),
  (13, 14, .iconst 0, 0, 0, 0, [], 0),
  (14, 15, .istore_n 2, 2, 0, 2, [], 0),
  (15, 16, .iload_n 2, 1, 0, 2, [], 0),
  (16, 19, .ifCond .eq 9, 14, 25, 0, [], 0),
  (19, 20, .aload_n 0, 1, 1, 0, [], 0),
  (20, 22, .bipush 12, 0, 0, 12, [], 0),
  (22, 25, .invokevirtual 233, 27, 0, 197, [], 1193),
  (25, 26, .aload_n 0, 1, 1, 0, [], 0),
  (26, 28, .bipush 11, 0, 0, 11, [], 0),
  (28, 31, .invokevirtual 233, 27, 0, 197, [], 1193),
  (31, 32, .aload_n 0, 1, 1, 0, [], 0),
  (32, 34, .bipush 10, 0, 0, 10, [], 0),
  (34, 37, .invokevirtual 233, 27, 0, 197, [], 1193),
  (37, 38, .aload_n 0, 1, 1, 0, [], 0),
  (38, 41, .getfield 25, 18, 8, 13, [], 848),
  (41, 42, .iconst 4, 0, 0, 4, [], 0),
  (42, 44, .bipush 7, 0, 0, 7, [], 0),
  (44, 45, .iload_n 1, 1, 0, 1, [], 0),
  (45, 46, .imul, 4, 0, 2, [], 0),
  (46, 47, .iadd, 4, 0, 0, [], 0),
  (47, 48, .iconst 1, 0, 0, 1, [], 0),
  (48, 49, .iadd, 4, 0, 0, [], 0),
  (49, 50, .iaload, 20, 0, 0, [], 0),
  (50, 51, .aload_n 0, 1, 1, 0, [], 0),
  (51, 52, .iload_n 1, 1, 0, 1, [], 0),
  (52, 55, .invokevirtual 236, 27, 0, 198, [], 1201),
  (55, 56, .iadd, 4, 0, 0, [], 0),
  (56, 57, .istore_n 3, 2, 0, 3, [], 0),
  (57, 58, .iload_n 2, 1, 0, 2, [], 0),
  (58, 61, .ifCond .eq 8, 14, 66, 0, [], 0),
  (61, 62, .iload_n 3, 1, 0, 3, [], 0),
  (62, 63, .ineg, 7, 0, 0, [], 0),
  (63, 66, .goto 4, 16, 67, 0, [], 0),
  (66, 67, .iload_n 3, 1, 0, 3, [], 0),
  (67, 68, .ireturn, 29, 0, 0, [], 0)]
/-- PuddingHobsModel.plainSize(I)I -/
def hm_T200 : hm_X := (yX8_plainSize, prog_10_method_79_code, 4, (some .int), false, 2, [1200, 64, 1199, 52], hm_P200)
def hm_P201 : List hm_I := [
  (0, 1, .aload_n 0, 1, 1, 0, [], 0),
  (1, 3, .bipush 23, 0, 0, 23, [], 0),
  (3, 6, .invokevirtual 233, 27, 0, 197, [], 1193),
  (6, 7, .aload_n 0, 1, 1, 0, [], 0),
  (7, 9, .bipush 20, 0, 0, 20, [], 0),
  (9, 12, .invokevirtual 233, 27, 0, 197, [], 1193),
  (12, 13, .iload_n 1, 1, 0, 1, [], 0),
  (13, 14, .aload_n 0, 1, 1, 0, [], 0),
  (14, 15, .iload_n 1, 1, 0, 1, [], 0),
  (15, 18, .invokevirtual 239, 27, 0, 199, [], 1189),
  (18, 19, .isub, 4, 0, 1, [], 0),
  (19, 20, .ireturn, 29, 0, 0, [], 0)]
/-- PuddingHobsModel.blackMark(I)I -/
def hm_T201 : hm_X := (yX8_blackMark, prog_10_method_80_code, 2, (some .int), false, 2, [1208, 64, 1207, 54], hm_P201)
def hm_P202 : List hm_I := [
  (0, 1, .aload_n 0, 1, 1, 0, [], 0),
  (1, 2, .iload_n 1, 1, 0, 1, [], 0),
  (2, 5, .invokevirtual 186, 27, 0, 152, [], 1048),
  (5, 8, .ifCond .eq 12, 14, 17, 0, [], 0),
  (8, 9, .iload_n 2, 1, 0, 2, [], 0),
  (9, 10, .iconst 0, 0, 0, 0, [], 0),
  (10, 11, .iconst 1, 0, 0, 1, [], 0),
  (11, 14, .invokestatic 53, 27, 0, 124, [], 910),
  (14, 17, .ifCond .ne 6, 14, 20, 1, [], 0),
  (17, 19, .ldc 61, 31, (-1000001), 0, [], 913),
  (19, 20, .ireturn, 29, 0, 0, [], 0),
  (20, 21, .aload_n 0, 1, 1, 0, [], 0),
  (21, 22, .iconst 0, 0, 0, 0, [], 0),
  (22, 25, .putfield 230, 19, 8, 21, [], 856),
  (25, 26, .aload_n 0, 1, 1, 0, [], 0),
  (26, 27, .iload_n 1, 1, 0, 1, [], 0),
  (27, 30, .invokevirtual 227, 27, 0, 194, [], 1177),
  (30, 31, .iconst 4, 0, 0, 4, [], 0),
  (31, 34, .if_icmp .lt 7, 15, 38, 2, [], 0),
  (34, 35, .iconst 1, 0, 0, 1, [], 0),
  (35, 38, .goto 4, 16, 39, 0, [], 0),
  (38, 39, .iconst 0, 0, 0, 0, [], 0),
  (39, 40, .istore_n 3, 2, 0, 3, [], 0),
  (40, 41, .iload_n 2, 1, 0, 2, [], 0),
  (41, 44, .ifCond .ne 21, 14, 62, 1, [], 0),
  (44, 45, .iload_n 3, 1, 0, 3, [], 0),
  (45, 48, .ifCond .eq 11, 14, 56, 0, [], 0),
  (48, 49, .aload_n 0, 1, 1, 0, [], 0),
  (49, 50, .iload_n 1, 1, 0, 1, [], 0),
  (50, 53, .invokevirtual 239, 27, 0, 199, [], 1189),
  (53, 56, .goto 8, 16, 61, 0, [], 0),
  (56, 57, .aload_n 0, 1, 1, 0, [], 0),
  (57, 58, .iload_n 1, 1, 0, 1, [], 0),
  (58, 61, .invokevirtual 242, 27, 0, 200, [], 1197),
  (61, 62, .ireturn, 29, 0, 0, [], 0),
  (62, 63, .iload_n 3, 1, 0, 3, [], 0),
  (63, 66, .ifCond .eq 11, 14, 74, 0, [], 0),
  (66, 67, .aload_n 0, 1, 1, 0, [], 0),
  (67, 68, .iload_n 1, 1, 0, 1, [], 0),
  (68, 71, .invokevirtual 245, 27, 0, 201, [], 1205),
  (71, 74, .goto 8, 16, 79, 0, [], 0),
  (74, 75, .aload_n 0, 1, 1, 0, [], 0),
  (75, 76, .iload_n 1, 1, 0, 1, [], 0),
  (76, 79, .invokevirtual 236, 27, 0, 198, [], 1201),
  (79, 80, .ireturn, 29, 0, 0, [], 0)]
/-- PuddingHobsModel.ask(II)I -/
def hm_T202 : hm_X := (yX8_ask, prog_10_method_81_code, 4, (some .int), false, 3, [1188, 64, 1186, 1187], hm_P202)
def hm_P203 : List hm_I := [
  (0, 1, .iload_n 1, 1, 0, 1, [], 0),
  (1, 2, .iconst 0, 0, 0, 0, [], 0),
  (2, 3, .aload_n 0, 1, 1, 0, [], 0),
  (3, 6, .getfield 230, 18, 8, 21, [], 856),
  (6, 7, .iconst 1, 0, 0, 1, [], 0),
  (7, 8, .isub, 4, 0, 1, [], 0),
  (8, 11, .invokestatic 53, 27, 0, 124, [], 910),
  (11, 14, .ifCond .eq 12, 14, 23, 0, [], 0),
  (14, 15, .aload_n 0, 1, 1, 0, [], 0),
  (15, 18, .getfield 44, 18, 8, 20, [], 855),
  (18, 19, .iload_n 1, 1, 0, 1, [], 0),
  (19, 20, .iaload, 20, 0, 0, [], 0),
  (20, 23, .goto 5, 16, 25, 0, [], 0),
  (23, 25, .ldc 47, 31, (-1000000), 0, [], 834),
  (25, 26, .ireturn, 29, 0, 0, [], 0)]
/-- PuddingHobsModel.trace(I)I -/
def hm_T203 : hm_X := (yX8_trace, prog_10_method_82_code, 2, (some .int), false, 2, [1212, 64, 1210, 1211], hm_P203)
def hm_P204 : List hm_I := [
  (0, 1, .iconst 0, 0, 0, 0, [], 0),
  (1, 2, .istore_n 2, 2, 0, 2, [], 0),
  (2, 3, .iload_n 1, 1, 0, 1, [], 0),
  (3, 56, .tableswitch 151 0 9 #[53, 85, 92, 99, 106, 113, 122, 131, 141, 146], 17, 154, 0, [(0, 56), (1, 88), (2, 95), (3, 102), (4, 109), (5, 116), (6, 125), (7, 134), (8, 144), (9, 149)], 0),
  (56, 57, .iconst 0, 0, 0, 0, [], 0),
  (57, 58, .istore_n 3, 2, 0, 3, [], 0),
  (58, 59, .iload_n 3, 1, 0, 3, [], 0),
  (59, 61, .bipush 8, 0, 0, 8, [], 0),
  (61, 64, .if_icmp .ge 25, 15, 86, 3, [], 0),
  (64, 65, .iload_n 2, 1, 0, 2, [], 0),
  (65, 66, .aload_n 0, 1, 1, 0, [], 0),
  (66, 67, .iload_n 3, 1, 0, 3, [], 0),
  (67, 70, .invokevirtual 69, 27, 0, 132, [], 927),
  (70, 73, .ifCond .eq 7, 14, 77, 0, [], 0),
  (73, 74, .iconst 0, 0, 0, 0, [], 0),
  (74, 77, .goto 4, 16, 78, 0, [], 0),
  (77, 78, .iconst 1, 0, 0, 1, [], 0),
  (78, 79, .iadd, 4, 0, 0, [], 0),
  (79, 80, .istore_n 2, 2, 0, 2, [], 0),
  (80, 83, .iinc 3 1, 3, 1, 3, [], 0),
  (83, 86, .goto (-25), 16, 58, 0, [], 0),
  (86, 87, .iload_n 2, 1, 0, 2, [], 0),
  (87, 88, .ireturn, 29, 0, 0, [], 0),
  (88, 89, .aload_n 0, 1, 1, 0, [], 0),
  (89, 92, .getfield 25, 18, 8, 13, [], 848),
  (92, 93, .iconst 2, 0, 0, 2, [], 0),
  (93, 94, .iaload, 20, 0, 0, [], 0),
  (94, 95, .ireturn, 29, 0, 0, [], 0),
  (95, 96, .aload_n 0, 1, 1, 0, [], 0),
  (96, 99, .getfield 25, 18, 8, 13, [], 848),
  (99, 100, .iconst 3, 0, 0, 3, [], 0),
  (100, 101, .iaload, 20, 0, 0, [], 0),
  (101, 102, .ireturn, 29, 0, 0, [], 0),
  (102, 103, .aload_n 0, 1, 1, 0, [], 0),
  (103, 106, .getfield 25, 18, 8, 13, [], 848),
  (106, 107, .iconst 0, 0, 0, 0, [], 0),
  (107, 108, .iaload, 20, 0, 0, [], 0),
  (108, 109, .ireturn, 29, 0, 0, [], 0),
  (109, 110, .aload_n 0, 1, 1, 0, [], 0),
  (110, 113, .getfield 25, 18, 8, 13, [], 848),
  (113, 114, .iconst 1, 0, 0, 1, [], 0),
  (114, 115, .iaload, 20, 0, 0, [], 0),
  (115, 116, .ireturn, 29, 0, 0, [], 0),
  (116, 117, .aload_n 0, 1, 1, 0, [], 0),
  (117, 120, .getfield 25, 18, 8, 13, [], 848),
  (120, 121, .iconst 5, 0, 0, 5, [], 0),
  (121, 124, .invokestatic 183, 27, 0, 156, [], 1041),
  (124, 125, .ireturn, 29, 0, 0, [], 0),
  (125, 126, .aload_n 0, 1, 1, 0, [], 0),
  (126, 129, .getfield 25, 18, 8, 13, [], 848),
  (129, 130, .iconst 4, 0, 0, 4, [], 0),
  (130, 133, .invokestatic 183, 27, 0, 156, [], 1041),
  (133, 134, .ireturn, 29, 0, 0, [], 0),
  (134, 135, .aload_n 0, 1, 1, 0, [], 0),
  (135, 138, .getfield 25, 18, 8, 13, [], 848),
  (138, 140, .bipush 6, 0, 0, 6, [], 0),
  (140, 143, .invokestatic 183, 27, 0, 156, [], 1041),
  (143, 144, .ireturn, 29, 0, 0, [], 0),
  (144, 145, .aload_n 0, 1, 1, 0, [], 0),
  (145, 148, .getfield 136, 18, 8, 17, [], 852),
  (148, 149, .ireturn, 29, 0, 0, [], 0),
  (149, 150, .aload_n 0, 1, 1, 0, [], 0),
  (150, 153, .getfield 79, 18, 8, 6, [], 841),
  (153, 154, .ireturn, 29, 0, 0, [], 0),
  (154, 156, .ldc 61, 31, (-1000001), 0, [], 913),
  (156, 157, .ireturn, 29, 0, 0, [], 0)]
/-- PuddingHobsModel.count(I)I -/
def hm_T204 : hm_X := (yX8_count, prog_10_method_83_code, 4, (some .int), false, 2, [1216, 64, 1214, 1215], hm_P204)
def hm_P205 : List hm_I := [
  (0, 1, .aload_n 0, 1, 1, 0, [], 0),
  (1, 4, .getfield 48, 18, 8, 4, [], 839),
  (4, 5, .ireturn, 29, 0, 0, [], 0)]
/-- PuddingHobsModel.status()I -/
def hm_T205 : hm_X := (yX8_status, prog_10_method_84_code, 1, (some .int), false, 1, [1220, 64, 1218, 1219], hm_P205)
def hm_P206 : List hm_I := [
  (0, 1, .iload_n 0, 1, 0, 0, [], 0),
  (1, 2, .iconst (-1), 31, (-1), 0, [], 0),
  (2, 3, .ixor, 4, 0, 5, [], 0),
  (3, 4, .iload_n 0, 1, 0, 0, [], 0),
  (4, 5, .iconst 1, 0, 0, 1, [], 0),
  (5, 6, .isub, 4, 0, 1, [], 0),
  (6, 7, .iand, 4, 0, 3, [], 0),
  (7, 8, .istore_n 0, 2, 0, 0, [], 0),
  (8, 9, .iload_n 0, 1, 0, 0, [], 0),
  (9, 12, .ifCond .gt 8, 14, 17, 4, [], 0),
  (12, 13, .iload_n 0, 1, 0, 0, [], 0),
  (13, 15, .bipush 32, 0, 0, 32, [], 0),
  (15, 16, .iand, 4, 0, 3, [], 0),
  (16, 17, .ireturn, 29, 0, 0, [], 0),
  (17, 18, .iconst 1, 0, 0, 1, [], 0),
  (18, 19, .istore_n 1, 2, 0, 1, [], 0),
  (19, 20, .iload_n 0, 1, 0, 0, [], 0),
  (20, 23, .ldc_w 264, 0, 0, 65536, [], 619),
  (23, 26, .if_icmp .le 11, 15, 34, 5, [], 0),
  (26, 29, .iinc 1 16, 3, 16, 1, [], 0),
  (29, 30, .iload_n 0, 1, 0, 0, [], 0),
  (30, 32, .bipush 16, 0, 0, 16, [], 0),
  (32, 33, .iushr, 4, 0, 8, [], 0),
  (33, 34, .istore_n 0, 2, 0, 0, [], 0),
  (34, 35, .iload_n 0, 1, 0, 0, [], 0),
  (35, 38, .sipush 256, 0, 0, 256, [], 0),
  (38, 41, .if_icmp .le 11, 15, 49, 5, [], 0),
  (41, 44, .iinc 1 8, 3, 8, 1, [], 0),
  (44, 45, .iload_n 0, 1, 0, 0, [], 0),
  (45, 47, .bipush 8, 0, 0, 8, [], 0),
  (47, 48, .iushr, 4, 0, 8, [], 0),
  (48, 49, .istore_n 0, 2, 0, 0, [], 0),
  (49, 50, .iload_n 0, 1, 0, 0, [], 0),
  (50, 52, .bipush 16, 0, 0, 16, [], 0),
  (52, 55, .if_icmp .le 10, 15, 62, 5, [], 0),
  (55, 58, .iinc 1 4, 3, 4, 1, [], 0),
  (58, 59, .iload_n 0, 1, 0, 0, [], 0),
  (59, 60, .iconst 4, 0, 0, 4, [], 0),
  (60, 61, .iushr, 4, 0, 8, [], 0),
  (61, 62, .istore_n 0, 2, 0, 0, [], 0),
  (62, 63, .iload_n 0, 1, 0, 0, [], 0),
  (63, 64, .iconst 4, 0, 0, 4, [], 0),
  (64, 67, .if_icmp .le 10, 15, 74, 5, [], 0),
  (67, 70, .iinc 1 2, 3, 2, 1, [], 0),
  (70, 71, .iload_n 0, 1, 0, 0, [], 0),
  (71, 72, .iconst 2, 0, 0, 2, [], 0),
  (72, 73, .iushr, 4, 0, 8, [], 0),
  (73, 74, .istore_n 0, 2, 0, 0, [], 0),
  (74, 75, .iload_n 1, 1, 0, 1, [], 0),
  (75, 76, .iload_n 0, 1, 0, 0, [], 0),
  (76, 77, .iconst 1, 0, 0, 1, [], 0),
  (77, 78, .iushr, 4, 0, 8, [], 0),
  (78, 79, .iadd, 4, 0, 0, [], 0),
  (79, 80, .ireturn, 29, 0, 0, [], 0)]
/-- java/lang/Integer.numberOfTrailingZeros(I)I -/
def hm_T206 : hm_X := (yJ6_numberOfTrailingZeros_0f7a4, prog_11_method_48_code, 2, (some .int), true, 1, [618, 67, 617, 0], hm_P206)
def hm_P207 : List hm_I := [
  (0, 1, .iload_n 0, 1, 0, 0, [], 0),
  (1, 2, .iload_n 0, 1, 0, 0, [], 0),
  (2, 3, .iconst 1, 0, 0, 1, [], 0),
  (3, 4, .iushr, 4, 0, 8, [], 0),
  (4, 7, .ldc_w 265, 0, 0, 1431655765, [], 501),
  (7, 8, .iand, 4, 0, 3, [], 0),
  (8, 9, .isub, 4, 0, 1, [], 0),
  (9, 10, .istore_n 0, 2, 0, 0, [], 0),
  (10, 11, .iload_n 0, 1, 0, 0, [], 0),
  (11, 14, .ldc_w 266, 0, 0, 858993459, [], 502),
  (14, 15, .iand, 4, 0, 3, [], 0),
  (15, 16, .iload_n 0, 1, 0, 0, [], 0),
  (16, 17, .iconst 2, 0, 0, 2, [], 0),
  (17, 18, .iushr, 4, 0, 8, [], 0),
  (18, 21, .ldc_w 266, 0, 0, 858993459, [], 502),
  (21, 22, .iand, 4, 0, 3, [], 0),
  (22, 23, .iadd, 4, 0, 0, [], 0),
  (23, 24, .istore_n 0, 2, 0, 0, [], 0),
  (24, 25, .iload_n 0, 1, 0, 0, [], 0),
  (25, 26, .iload_n 0, 1, 0, 0, [], 0),
  (26, 27, .iconst 4, 0, 0, 4, [], 0),
  (27, 28, .iushr, 4, 0, 8, [], 0),
  (28, 29, .iadd, 4, 0, 0, [], 0),
  (29, 32, .ldc_w 267, 0, 0, 252645135, [], 503),
  (32, 33, .iand, 4, 0, 3, [], 0),
  (33, 34, .istore_n 0, 2, 0, 0, [], 0),
  (34, 35, .iload_n 0, 1, 0, 0, [], 0),
  (35, 36, .iload_n 0, 1, 0, 0, [], 0),
  (36, 38, .bipush 8, 0, 0, 8, [], 0),
  (38, 39, .iushr, 4, 0, 8, [], 0),
  (39, 40, .iadd, 4, 0, 0, [], 0),
  (40, 41, .istore_n 0, 2, 0, 0, [], 0),
  (41, 42, .iload_n 0, 1, 0, 0, [], 0),
  (42, 43, .iload_n 0, 1, 0, 0, [], 0),
  (43, 45, .bipush 16, 0, 0, 16, [], 0),
  (45, 46, .iushr, 4, 0, 8, [], 0),
  (46, 47, .iadd, 4, 0, 0, [], 0),
  (47, 48, .istore_n 0, 2, 0, 0, [], 0),
  (48, 49, .iload_n 0, 1, 0, 0, [], 0),
  (49, 51, .bipush 63, 0, 0, 63, [], 0),
  (51, 52, .iand, 4, 0, 3, [], 0),
  (52, 53, .ireturn, 29, 0, 0, [], 0)]
/-- java/lang/Integer.bitCount(I)I -/
def hm_T207 : hm_X := (yJ6_bitCount_0f7a4, prog_11_method_49_code, 1, (some .int), true, 1, [500, 67, 499, 0], hm_P207)
def hm_P208 : List hm_I := [
  (3, 4, .dup, 24, 0, 0, [], 0),
  (7, 8, .astore_n 1, 2, 1, 1, [], 0),
  (11, 12, .dup, 24, 0, 0, [], 0),
  (15, 16, .astore_n 2, 2, 1, 2, [], 0),
  (16, 17, .iconst 0, 0, 0, 0, [], 0),
  (17, 18, .istore_n 3, 2, 0, 3, [], 0),
  (18, 19, .iload_n 3, 1, 0, 3, [], 0),
  (19, 20, .aload_n 0, 1, 1, 0, [], 0),
  (20, 21, .arraylength, 22, 0, 0, [], 0),
  (21, 23, .bipush 6, 0, 0, 6, [], 0),
  (23, 24, .isub, 4, 0, 1, [], 0),
  (24, 27, .if_icmp .gt 1242, 15, 1266, 4, [], 0),
  (27, 28, .aload_n 0, 1, 1, 0, [], 0),
  (28, 29, .iload_n 3, 1, 0, 3, [], 0),
  (29, 30, .iaload, 20, 0, 0, [], 0),
  (30, 32, .bipush 63, 0, 0, 63, [], 0),
  (32, 33, .iand, 4, 0, 3, [], 0),
  (33, 192, .tableswitch 1227 0 35 #[159, 202, 245, 308, 331, 354, 367, 380, 403, 426, 459, 492, 525, 548, 561, 594, 617, 650, 673, 696, 719, 752, 785, 818, 841, 874, 937, 990, 1033, 1056, 1079, 1102, 1135, 1168, 1191, 1214], 17, 1260, 0, [(0, 192), (1, 235), (2, 278), (3, 341), (4, 364), (5, 387), (6, 400), (7, 413), (8, 436), (9, 459), (10, 492), (11, 525), (12, 558), (13, 581), (14, 594), (15, 627), (16, 650), (17, 683), (18, 706), (19, 729), (20, 752), (21, 785), (22, 818), (23, 851), (24, 874), (25, 907), (26, 970), (27, 1023), (28, 1066), (29, 1089), (30, 1112), (31, 1135), (32, 1168), (33, 1201), (34, 1224), (35, 1247)], 0),
  (192, 193, .aload_n 1, 1, 1, 1, [], 0),
  (193, 194, .aload_n 0, 1, 1, 0, [], 0),
  (194, 195, .iload_n 3, 1, 0, 3, [], 0),
  (195, 196, .iconst 1, 0, 0, 1, [], 0),
  (196, 197, .iadd, 4, 0, 0, [], 0),
  (197, 198, .iaload, 20, 0, 0, [], 0),
  (198, 199, .aload_n 0, 1, 1, 0, [], 0),
  (199, 200, .iload_n 3, 1, 0, 3, [], 0),
  (200, 201, .iconst 2, 0, 0, 2, [], 0),
  (201, 202, .iadd, 4, 0, 0, [], 0),
  (202, 203, .iaload, 20, 0, 0, [], 0),
  (203, 204, .aload_n 0, 1, 1, 0, [], 0),
  (204, 205, .iload_n 3, 1, 0, 3, [], 0),
  (205, 206, .iconst 3, 0, 0, 3, [], 0),
  (206, 207, .iadd, 4, 0, 0, [], 0),
  (207, 208, .iaload, 20, 0, 0, [], 0),
  (208, 211, .invokevirtual 13, 27, 0, 84, [], 278),
  (211, 212, .aload_n 2, 1, 1, 2, [], 0),
  (212, 213, .aload_n 0, 1, 1, 0, [], 0),
  (213, 214, .iload_n 3, 1, 0, 3, [], 0),
  (214, 215, .iconst 1, 0, 0, 1, [], 0),
  (215, 216, .iadd, 4, 0, 0, [], 0),
  (216, 217, .iaload, 20, 0, 0, [], 0),
  (217, 218, .aload_n 0, 1, 1, 0, [], 0),
  (218, 219, .iload_n 3, 1, 0, 3, [], 0),
  (219, 220, .iconst 2, 0, 0, 2, [], 0),
  (220, 221, .iadd, 4, 0, 0, [], 0),
  (221, 222, .iaload, 20, 0, 0, [], 0),
  (222, 223, .aload_n 0, 1, 1, 0, [], 0),
  (223, 224, .iload_n 3, 1, 0, 3, [], 0),
  (224, 225, .iconst 3, 0, 0, 3, [], 0),
  (225, 226, .iadd, 4, 0, 0, [], 0),
  (226, 227, .iaload, 20, 0, 0, [], 0),
  (227, 230, .invokevirtual 17, 27, 0, 134, [], 903),
  (230, 233, .if_icmp .eq 1030, 15, 1260, 0, [], 0),
  (233, 234, .iconst 0, 0, 0, 0, [], 0),
  (234, 235, .ireturn, 29, 0, 1, [], 0),
  (235, 236, .aload_n 1, 1, 1, 1, [], 0),
  (236, 237, .aload_n 0, 1, 1, 0, [], 0),
  (237, 238, .iload_n 3, 1, 0, 3, [], 0),
  (238, 239, .iconst 1, 0, 0, 1, [], 0),
  (239, 240, .iadd, 4, 0, 0, [], 0),
  (240, 241, .iaload, 20, 0, 0, [], 0),
  (241, 242, .aload_n 0, 1, 1, 0, [], 0),
  (242, 243, .iload_n 3, 1, 0, 3, [], 0),
  (243, 244, .iconst 2, 0, 0, 2, [], 0),
  (244, 245, .iadd, 4, 0, 0, [], 0),
  (245, 246, .iaload, 20, 0, 0, [], 0),
  (246, 247, .aload_n 0, 1, 1, 0, [], 0),
  (247, 248, .iload_n 3, 1, 0, 3, [], 0),
  (248, 249, .iconst 3, 0, 0, 3, [], 0),
  (249, 250, .iadd, 4, 0, 0, [], 0),
  (250, 251, .iaload, 20, 0, 0, [], 0),
  (251, 254, .invokevirtual 18, 27, 0, 85, [], 305),
  (254, 255, .aload_n 2, 1, 1, 2, [], 0),
  (255, 256, .aload_n 0, 1, 1, 0, [], 0),
  (256, 257, .iload_n 3, 1, 0, 3, [], 0),
  (257, 258, .iconst 1, 0, 0, 1, [], 0),
  (258, 259, .iadd, 4, 0, 0, [], 0),
  (259, 260, .iaload, 20, 0, 0, [], 0),
  (260, 261, .aload_n 0, 1, 1, 0, [], 0),
  (261, 262, .iload_n 3, 1, 0, 3, [], 0),
  (262, 263, .iconst 2, 0, 0, 2, [], 0),
  (263, 264, .iadd, 4, 0, 0, [], 0),
  (264, 265, .iaload, 20, 0, 0, [], 0),
  (265, 266, .aload_n 0, 1, 1, 0, [], 0),
  (266, 267, .iload_n 3, 1, 0, 3, [], 0),
  (267, 268, .iconst 3, 0, 0, 3, [], 0),
  (268, 269, .iadd, 4, 0, 0, [], 0),
  (269, 270, .iaload, 20, 0, 0, [], 0),
  (270, 273, .invokevirtual 21, 27, 0, 135, [], 923),
  (273, 276, .if_icmp .eq 987, 15, 1260, 0, [], 0),
  (276, 277, .iconst 0, 0, 0, 0, [], 0),
  (277, 278, .ireturn, 29, 0, 1, [], 0),
  (278, 279, .aload_n 1, 1, 1, 1, [], 0),
  (279, 280, .aload_n 0, 1, 1, 0, [], 0),
  (280, 281, .iload_n 3, 1, 0, 3, [], 0),
  (281, 282, .iconst 1, 0, 0, 1, [], 0),
  (282, 283, .iadd, 4, 0, 0, [], 0),
  (283, 284, .iaload, 20, 0, 0, [], 0),
  (284, 285, .aload_n 0, 1, 1, 0, [], 0),
  (285, 286, .iload_n 3, 1, 0, 3, [], 0),
  (286, 287, .iconst 2, 0, 0, 2, [], 0),
  (287, 288, .iadd, 4, 0, 0, [], 0),
  (288, 289, .iaload, 20, 0, 0, [], 0),
  (289, 290, .aload_n 0, 1, 1, 0, [], 0),
  (290, 291, .iload_n 3, 1, 0, 3, [], 0),
  (291, 292, .iconst 3, 0, 0, 3, [], 0),
  (292, 293, .iadd, 4, 0, 0, [], 0),
  (293, 294, .iaload, 20, 0, 0, [], 0),
  (294, 295, .aload_n 0, 1, 1, 0, [], 0),
  (295, 296, .iload_n 3, 1, 0, 3, [], 0),
  (296, 297, .iconst 4, 0, 0, 4, [], 0),
  (297, 298, .iadd, 4, 0, 0, [], 0),
  (298, 299, .iaload, 20, 0, 0, [], 0),
  (299, 300, .aload_n 0, 1, 1, 0, [], 0),
  (300, 301, .iload_n 3, 1, 0, 3, [], 0),
  (301, 302, .iconst 5, 0, 0, 5, [], 0),
  (302, 303, .iadd, 4, 0, 0, [], 0),
  (303, 304, .iaload, 20, 0, 0, [], 0),
  (304, 307, .invokevirtual 22, 27, 0, 86, [], 324),
  (307, 308, .aload_n 2, 1, 1, 2, [], 0),
  (308, 309, .aload_n 0, 1, 1, 0, [], 0),
  (309, 310, .iload_n 3, 1, 0, 3, [], 0),
  (310, 311, .iconst 1, 0, 0, 1, [], 0),
  (311, 312, .iadd, 4, 0, 0, [], 0),
  (312, 313, .iaload, 20, 0, 0, [], 0),
  (313, 314, .aload_n 0, 1, 1, 0, [], 0),
  (314, 315, .iload_n 3, 1, 0, 3, [], 0),
  (315, 316, .iconst 2, 0, 0, 2, [], 0),
  (316, 317, .iadd, 4, 0, 0, [], 0),
  (317, 318, .iaload, 20, 0, 0, [], 0),
  (318, 319, .aload_n 0, 1, 1, 0, [], 0),
  (319, 320, .iload_n 3, 1, 0, 3, [], 0),
  (320, 321, .iconst 3, 0, 0, 3, [], 0),
  (321, 322, .iadd, 4, 0, 0, [], 0),
  (322, 323, .iaload, 20, 0, 0, [], 0),
  (323, 324, .aload_n 0, 1, 1, 0, [], 0),
  (324, 325, .iload_n 3, 1, 0, 3, [], 0),
  (325, 326, .iconst 4, 0, 0, 4, [], 0),
  (326, 327, .iadd, 4, 0, 0, [], 0),
  (327, 328, .iaload, 20, 0, 0, [], 0),
  (328, 329, .aload_n 0, 1, 1, 0, [], 0),
  (329, 330, .iload_n 3, 1, 0, 3, [], 0),
  (330, 331, .iconst 5, 0, 0, 5, [], 0),
  (331, 332, .iadd, 4, 0, 0, [], 0),
  (332, 333, .iaload, 20, 0, 0, [], 0),
  (333, 336, .invokevirtual 26, 27, 0, 137, [], 934),
  (336, 339, .if_icmp .eq 924, 15, 1260, 0, [], 0),
  (339, 340, .iconst 0, 0, 0, 0, [], 0),
  (340, 341, .ireturn, 29, 0, 1, [], 0),
  (341, 342, .aload_n 1, 1, 1, 1, [], 0),
  (342, 343, .aload_n 0, 1, 1, 0, [], 0),
  (343, 344, .iload_n 3, 1, 0, 3, [], 0),
  (344, 345, .iconst 1, 0, 0, 1, [], 0),
  (345, 346, .iadd, 4, 0, 0, [], 0),
  (346, 347, .iaload, 20, 0, 0, [], 0),
  (347, 350, .invokevirtual 27, 27, 0, 87, [], 339),
  (350, 351, .aload_n 2, 1, 1, 2, [], 0),
  (351, 352, .aload_n 0, 1, 1, 0, [], 0),
  (352, 353, .iload_n 3, 1, 0, 3, [], 0),
  (353, 354, .iconst 1, 0, 0, 1, [], 0),
  (354, 355, .iadd, 4, 0, 0, [], 0),
  (355, 356, .iaload, 20, 0, 0, [], 0),
  (356, 359, .invokevirtual 31, 27, 0, 138, [], 942),
  (359, 362, .if_icmp .eq 901, 15, 1260, 0, [], 0),
  (362, 363, .iconst 0, 0, 0, 0, [], 0),
  (363, 364, .ireturn, 29, 0, 1, [], 0),
  (364, 365, .aload_n 1, 1, 1, 1, [], 0),
  (365, 366, .aload_n 0, 1, 1, 0, [], 0),
  (366, 367, .iload_n 3, 1, 0, 3, [], 0),
  (367, 368, .iconst 1, 0, 0, 1, [], 0),
  (368, 369, .iadd, 4, 0, 0, [], 0),
  (369, 370, .iaload, 20, 0, 0, [], 0),
  (370, 373, .invokevirtual 32, 27, 0, 88, [], 347),
  (373, 374, .aload_n 2, 1, 1, 2, [], 0),
  (374, 375, .aload_n 0, 1, 1, 0, [], 0),
  (375, 376, .iload_n 3, 1, 0, 3, [], 0),
  (376, 377, .iconst 1, 0, 0, 1, [], 0),
  (377, 378, .iadd, 4, 0, 0, [], 0),
  (378, 379, .iaload, 20, 0, 0, [], 0),
  (379, 382, .invokevirtual 35, 27, 0, 139, [], 946),
  (382, 385, .if_icmp .eq 878, 15, 1260, 0, [], 0),
  (385, 386, .iconst 0, 0, 0, 0, [], 0),
  (386, 387, .ireturn, 29, 0, 1, [], 0),
  (387, 388, .aload_n 1, 1, 1, 1, [], 0),
  (388, 391, .invokevirtual 36, 27, 0, 89, [], 360),
  (391, 392, .aload_n 2, 1, 1, 2, [], 0),
  (392, 395, .invokevirtual 40, 27, 0, 149, [], 951),
  (395, 398, .if_icmp .eq 865, 15, 1260, 0, [], 0),
  (398, 399, .iconst 0, 0, 0, 0, [], 0),
  (399, 400, .ireturn, 29, 0, 1, [], 0),
  (400, 401, .aload_n 1, 1, 1, 1, [], 0),
  (401, 404, .invokevirtual 41, 27, 0, 90, [], 426),
  (404, 405, .aload_n 2, 1, 1, 2, [], 0),
  (405, 408, .invokevirtual 44, 27, 0, 150, [], 994),
  (408, 411, .if_icmp .eq 852, 15, 1260, 0, [], 0),
  (411, 412, .iconst 0, 0, 0, 0, [], 0),
  (412, 413, .ireturn, 29, 0, 1, [], 0),
  (413, 414, .aload_n 1, 1, 1, 1, [], 0),
  (414, 415, .aload_n 0, 1, 1, 0, [], 0),
  (415, 416, .iload_n 3, 1, 0, 3, [], 0),
  (416, 417, .iconst 1, 0, 0, 1, [], 0),
  (417, 418, .iadd, 4, 0, 0, [], 0),
  (418, 419, .iaload, 20, 0, 0, [], 0),
  (419, 422, .invokevirtual 45, 27, 0, 91, [], 434),
  (422, 423, .aload_n 2, 1, 1, 2, [], 0),
  (423, 424, .aload_n 0, 1, 1, 0, [], 0),
  (424, 425, .iload_n 3, 1, 0, 3, [], 0),
  (425, 426, .iconst 1, 0, 0, 1, [], 0),
  (426, 427, .iadd, 4, 0, 0, [], 0),
  (427, 428, .iaload, 20, 0, 0, [], 0),
  (428, 431, .invokevirtual 48, 27, 0, 166, [], 998),
  (431, 434, .if_icmp .eq 829, 15, 1260, 0, [], 0),
  (434, 435, .iconst 0, 0, 0, 0, [], 0),
  (435, 436, .ireturn, 29, 0, 1, [], 0),
  (436, 437, .aload_n 1, 1, 1, 1, [], 0),
  (437, 438, .aload_n 0, 1, 1, 0, [], 0),
  (438, 439, .iload_n 3, 1, 0, 3, [], 0),
  (439, 440, .iconst 1, 0, 0, 1, [], 0),
  (440, 441, .iadd, 4, 0, 0, [], 0),
  (441, 442, .iaload, 20, 0, 0, [], 0),
  (442, 445, .invokevirtual 49, 27, 0, 92, [], 504),
  (445, 446, .aload_n 2, 1, 1, 2, [], 0),
  (446, 447, .aload_n 0, 1, 1, 0, [], 0),
  (447, 448, .iload_n 3, 1, 0, 3, [], 0),
  (448, 449, .iconst 1, 0, 0, 1, [], 0),
  (449, 450, .iadd, 4, 0, 0, [], 0),
  (450, 451, .iaload, 20, 0, 0, [], 0),
  (451, 454, .invokevirtual 52, 27, 0, 167, [], 1044),
  (454, 457, .if_icmp .eq 806, 15, 1260, 0, [], 0),
  (457, 458, .iconst 0, 0, 0, 0, [], 0),
  (458, 459, .ireturn, 29, 0, 1, [], 0),
  (459, 460, .aload_n 1, 1, 1, 1, [], 0),
  (460, 461, .aload_n 0, 1, 1, 0, [], 0),
  (461, 462, .iload_n 3, 1, 0, 3, [], 0),
  (462, 463, .iconst 1, 0, 0, 1, [], 0),
  (463, 464, .iadd, 4, 0, 0, [], 0),
  (464, 465, .iaload, 20, 0, 0, [], 0),
  (465, 466, .aload_n 0, 1, 1, 0, [], 0),
  (466, 467, .iload_n 3, 1, 0, 3, [], 0),
  (467, 468, .iconst 2, 0, 0, 2, [], 0),
  (468, 469, .iadd, 4, 0, 0, [], 0),
  (469, 470, .iaload, 20, 0, 0, [], 0),
  (470, 473, .invokevirtual 53, 27, 0, 93, [], 517),
  (473, 474, .aload_n 2, 1, 1, 2, [], 0),
  (474, 475, .aload_n 0, 1, 1, 0, [], 0),
  (475, 476, .iload_n 3, 1, 0, 3, [], 0),
  (476, 477, .iconst 1, 0, 0, 1, [], 0),
  (477, 478, .iadd, 4, 0, 0, [], 0),
  (478, 479, .iaload, 20, 0, 0, [], 0),
  (479, 480, .aload_n 0, 1, 1, 0, [], 0),
  (480, 481, .iload_n 3, 1, 0, 3, [], 0),
  (481, 482, .iconst 2, 0, 0, 2, [], 0),
  (482, 483, .iadd, 4, 0, 0, [], 0),
  (483, 484, .iaload, 20, 0, 0, [], 0),
  (484, 487, .invokevirtual 57, 27, 0, 168, [], 1059),
  (487, 490, .if_icmp .eq 773, 15, 1260, 0, [], 0),
  (490, 491, .iconst 0, 0, 0, 0, [], 0),
  (491, 492, .ireturn, 29, 0, 1, [], 0),
  (492, 493, .aload_n 1, 1, 1, 1, [], 0),
  (493, 494, .aload_n 0, 1, 1, 0, [], 0),
  (494, 495, .iload_n 3, 1, 0, 3, [], 0),
  (495, 496, .iconst 1, 0, 0, 1, [], 0),
  (496, 497, .iadd, 4, 0, 0, [], 0),
  (497, 498, .iaload, 20, 0, 0, [], 0),
  (498, 499, .aload_n 0, 1, 1, 0, [], 0),
  (499, 500, .iload_n 3, 1, 0, 3, [], 0),
  (500, 501, .iconst 2, 0, 0, 2, [], 0),
  (501, 502, .iadd, 4, 0, 0, [], 0),
  (502, 503, .iaload, 20, 0, 0, [], 0),
  (503, 506, .invokevirtual 58, 27, 0, 94, [], 529),
  (506, 507, .aload_n 2, 1, 1, 2, [], 0),
  (507, 508, .aload_n 0, 1, 1, 0, [], 0),
  (508, 509, .iload_n 3, 1, 0, 3, [], 0),
  (509, 510, .iconst 1, 0, 0, 1, [], 0),
  (510, 511, .iadd, 4, 0, 0, [], 0),
  (511, 512, .iaload, 20, 0, 0, [], 0),
  (512, 513, .aload_n 0, 1, 1, 0, [], 0),
  (513, 514, .iload_n 3, 1, 0, 3, [], 0),
  (514, 515, .iconst 2, 0, 0, 2, [], 0),
  (515, 516, .iadd, 4, 0, 0, [], 0),
  (516, 517, .iaload, 20, 0, 0, [], 0),
  (517, 520, .invokevirtual 61, 27, 0, 169, [], 1063),
  (520, 523, .if_icmp .eq 740, 15, 1260, 0, [], 0),
  (523, 524, .iconst 0, 0, 0, 0, [], 0),
  (524, 525, .ireturn, 29, 0, 1, [], 0),
  (525, 526, .aload_n 1, 1, 1, 1, [], 0),
  (526, 527, .aload_n 0, 1, 1, 0, [], 0),
  (527, 528, .iload_n 3, 1, 0, 3, [], 0),
  (528, 529, .iconst 1, 0, 0, 1, [], 0),
  (529, 530, .iadd, 4, 0, 0, [], 0),
  (530, 531, .iaload, 20, 0, 0, [], 0),
  (531, 532, .aload_n 0, 1, 1, 0, [], 0),
  (532, 533, .iload_n 3, 1, 0, 3, [], 0),
  (533, 534, .iconst 2, 0, 0, 2, [], 0),
  (534, 535, .iadd, 4, 0, 0, [], 0),
  (535, 536, .iaload, 20, 0, 0, [], 0),
  (536, 539, .invokevirtual 62, 27, 0, 95, [], 537),
  (539, 540, .aload_n 2, 1, 1, 2, [], 0),
  (540, 541, .aload_n 0, 1, 1, 0, [], 0),
  (541, 542, .iload_n 3, 1, 0, 3, [], 0),
  (542, 543, .iconst 1, 0, 0, 1, [], 0),
  (543, 544, .iadd, 4, 0, 0, [], 0),
  (544, 545, .iaload, 20, 0, 0, [], 0),
  (545, 546, .aload_n 0, 1, 1, 0, [], 0),
  (546, 547, .iload_n 3, 1, 0, 3, [], 0),
  (547, 548, .iconst 2, 0, 0, 2, [], 0),
  (548, 549, .iadd, 4, 0, 0, [], 0),
  (549, 550, .iaload, 20, 0, 0, [], 0),
  (550, 553, .invokevirtual 65, 27, 0, 170, [], 1070),
  (553, 556, .if_icmp .eq 707, 15, 1260, 0, [], 0),
  (556, 557, .iconst 0, 0, 0, 0, [], 0),
  (557, 558, .ireturn, 29, 0, 1, [], 0),
  (558, 559, .aload_n 1, 1, 1, 1, [], 0),
  (559, 560, .aload_n 0, 1, 1, 0, [], 0),
  (560, 561, .iload_n 3, 1, 0, 3, [], 0),
  (561, 562, .iconst 1, 0, 0, 1, [], 0),
  (562, 563, .iadd, 4, 0, 0, [], 0),
  (563, 564, .iaload, 20, 0, 0, [], 0),
  (564, 567, .invokevirtual 66, 27, 0, 96, [], 542),
  (567, 568, .aload_n 2, 1, 1, 2, [], 0),
  (568, 569, .aload_n 0, 1, 1, 0, [], 0),
  (569, 570, .iload_n 3, 1, 0, 3, [], 0),
  (570, 571, .iconst 1, 0, 0, 1, [], 0),
  (571, 572, .iadd, 4, 0, 0, [], 0),
  (572, 573, .iaload, 20, 0, 0, [], 0),
  (573, 576, .invokevirtual 69, 27, 0, 171, [], 1074),
  (576, 579, .if_icmp .eq 684, 15, 1260, 0, [], 0),
  (579, 580, .iconst 0, 0, 0, 0, [], 0),
  (580, 581, .ireturn, 29, 0, 1, [], 0),
  (581, 582, .aload_n 1, 1, 1, 1, [], 0),
  (582, 585, .invokevirtual 70, 27, 0, 97, [], 546),
  (585, 586, .aload_n 2, 1, 1, 2, [], 0),
  (586, 589, .invokevirtual 73, 27, 0, 172, [], 1078),
  (589, 592, .if_icmp .eq 671, 15, 1260, 0, [], 0),
  (592, 593, .iconst 0, 0, 0, 0, [], 0),
  (593, 594, .ireturn, 29, 0, 1, [], 0),
  (594, 595, .aload_n 1, 1, 1, 1, [], 0),
  (595, 596, .aload_n 0, 1, 1, 0, [], 0),
  (596, 597, .iload_n 3, 1, 0, 3, [], 0),
  (597, 598, .iconst 1, 0, 0, 1, [], 0),
  (598, 599, .iadd, 4, 0, 0, [], 0),
  (599, 600, .iaload, 20, 0, 0, [], 0),
  (600, 601, .aload_n 0, 1, 1, 0, [], 0),
  (601, 602, .iload_n 3, 1, 0, 3, [], 0),
  (602, 603, .iconst 2, 0, 0, 2, [], 0),
  (603, 604, .iadd, 4, 0, 0, [], 0),
  (604, 605, .iaload, 20, 0, 0, [], 0),
  (605, 608, .invokevirtual 74, 27, 0, 98, [], 562),
  (608, 609, .aload_n 2, 1, 1, 2, [], 0),
  (609, 610, .aload_n 0, 1, 1, 0, [], 0),
  (610, 611, .iload_n 3, 1, 0, 3, [], 0),
  (611, 612, .iconst 1, 0, 0, 1, [], 0),
  (612, 613, .iadd, 4, 0, 0, [], 0),
  (613, 614, .iaload, 20, 0, 0, [], 0),
  (614, 615, .aload_n 0, 1, 1, 0, [], 0),
  (615, 616, .iload_n 3, 1, 0, 3, [], 0),
  (616, 617, .iconst 2, 0, 0, 2, [], 0),
  (617, 618, .iadd, 4, 0, 0, [], 0),
  (618, 619, .iaload, 20, 0, 0, [], 0),
  (619, 622, .invokevirtual 77, 27, 0, 173, [], 1082),
  (622, 625, .if_icmp .eq 638, 15, 1260, 0, [], 0),
  (625, 626, .iconst 0, 0, 0, 0, [], 0),
  (626, 627, .ireturn, 29, 0, 1, [], 0),
  (627, 628, .aload_n 1, 1, 1, 1, [], 0),
  (628, 629, .aload_n 0, 1, 1, 0, [], 0),
  (629, 630, .iload_n 3, 1, 0, 3, [], 0),
  (630, 631, .iconst 1, 0, 0, 1, [], 0),
  (631, 632, .iadd, 4, 0, 0, [], 0),
  (632, 633, .iaload, 20, 0, 0, [], 0),
  (633, 636, .invokevirtual 78, 27, 0, 99, [], 568),
  (636, 637, .aload_n 2, 1, 1, 2, [], 0),
  (637, 638, .aload_n 0, 1, 1, 0, [], 0),
  (638, 639, .iload_n 3, 1, 0, 3, [], 0),
  (639, 640, .iconst 1, 0, 0, 1, [], 0),
  (640, 641, .iadd, 4, 0, 0, [], 0),
  (641, 642, .iaload, 20, 0, 0, [], 0),
  (642, 645, .invokevirtual 81, 27, 0, 174, [], 1086),
  (645, 648, .if_icmp .eq 615, 15, 1260, 0, [], 0),
  (648, 649, .iconst 0, 0, 0, 0, [], 0),
  (649, 650, .ireturn, 29, 0, 1, [], 0),
  (650, 651, .aload_n 1, 1, 1, 1, [], 0),
  (651, 652, .aload_n 0, 1, 1, 0, [], 0),
  (652, 653, .iload_n 3, 1, 0, 3, [], 0),
  (653, 654, .iconst 1, 0, 0, 1, [], 0),
  (654, 655, .iadd, 4, 0, 0, [], 0),
  (655, 656, .iaload, 20, 0, 0, [], 0),
  (656, 657, .aload_n 0, 1, 1, 0, [], 0),
  (657, 658, .iload_n 3, 1, 0, 3, [], 0),
  (658, 659, .iconst 2, 0, 0, 2, [], 0),
  (659, 660, .iadd, 4, 0, 0, [], 0),
  (660, 661, .iaload, 20, 0, 0, [], 0),
  (661, 664, .invokevirtual 82, 27, 0, 100, [], 572),
  (664, 665, .aload_n 2, 1, 1, 2, [], 0),
  (665, 666, .aload_n 0, 1, 1, 0, [], 0),
  (666, 667, .iload_n 3, 1, 0, 3, [], 0),
  (667, 668, .iconst 1, 0, 0, 1, [], 0),
  (668, 669, .iadd, 4, 0, 0, [], 0),
  (669, 670, .iaload, 20, 0, 0, [], 0),
  (670, 671, .aload_n 0, 1, 1, 0, [], 0),
  (671, 672, .iload_n 3, 1, 0, 3, [], 0),
  (672, 673, .iconst 2, 0, 0, 2, [], 0),
  (673, 674, .iadd, 4, 0, 0, [], 0),
  (674, 675, .iaload, 20, 0, 0, [], 0),
  (675, 678, .invokevirtual 85, 27, 0, 176, [], 1090),
  (678, 681, .if_icmp .eq 582, 15, 1260, 0, [], 0),
  (681, 682, .iconst 0, 0, 0, 0, [], 0),
  (682, 683, .ireturn, 29, 0, 1, [], 0),
  (683, 684, .aload_n 1, 1, 1, 1, [], 0),
  (684, 685, .aload_n 0, 1, 1, 0, [], 0),
  (685, 686, .iload_n 3, 1, 0, 3, [], 0),
  (686, 687, .iconst 1, 0, 0, 1, [], 0),
  (687, 688, .iadd, 4, 0, 0, [], 0),
  (688, 689, .iaload, 20, 0, 0, [], 0),
  (689, 692, .invokevirtual 86, 27, 0, 101, [], 590),
  (692, 693, .aload_n 2, 1, 1, 2, [], 0),
  (693, 694, .aload_n 0, 1, 1, 0, [], 0),
  (694, 695, .iload_n 3, 1, 0, 3, [], 0),
  (695, 696, .iconst 1, 0, 0, 1, [], 0),
  (696, 697, .iadd, 4, 0, 0, [], 0),
  (697, 698, .iaload, 20, 0, 0, [], 0),
  (698, 701, .invokevirtual 89, 27, 0, 177, [], 1098),
  (701, 704, .if_icmp .eq 559, 15, 1260, 0, [], 0),
  (704, 705, .iconst 0, 0, 0, 0, [], 0),
  (705, 706, .ireturn, 29, 0, 1, [], 0),
  (706, 707, .aload_n 1, 1, 1, 1, [], 0),
  (707, 708, .aload_n 0, 1, 1, 0, [], 0),
  (708, 709, .iload_n 3, 1, 0, 3, [], 0),
  (709, 710, .iconst 1, 0, 0, 1, [], 0),
  (710, 711, .iadd, 4, 0, 0, [], 0),
  (711, 712, .iaload, 20, 0, 0, [], 0),
  (712, 715, .invokevirtual 90, 27, 0, 102, [], 598),
  (715, 716, .aload_n 2, 1, 1, 2, [], 0),
  (716, 717, .aload_n 0, 1, 1, 0, [], 0),
  (717, 718, .iload_n 3, 1, 0, 3, [], 0),
  (718, 719, .iconst 1, 0, 0, 1, [], 0),
  (719, 720, .iadd, 4, 0, 0, [], 0),
  (720, 721, .iaload, 20, 0, 0, [], 0),
  (721, 724, .invokevirtual 93, 27, 0, 178, [], 1102),
  (724, 727, .if_icmp .eq 536, 15, 1260, 0, [], 0),
  (727, 728, .iconst 0, 0, 0, 0, [], 0),
  (728, 729, .ireturn, 29, 0, 1, [], 0),
  (729, 730, .aload_n 1, 1, 1, 1, [], 0),
  (730, 731, .aload_n 0, 1, 1, 0, [], 0),
  (731, 732, .iload_n 3, 1, 0, 3, [], 0),
  (732, 733, .iconst 1, 0, 0, 1, [], 0),
  (733, 734, .iadd, 4, 0, 0, [], 0),
  (734, 735, .iaload, 20, 0, 0, [], 0),
  (735, 738, .invokevirtual 94, 27, 0, 103, [], 608),
  (738, 739, .aload_n 2, 1, 1, 2, [], 0),
  (739, 740, .aload_n 0, 1, 1, 0, [], 0),
  (740, 741, .iload_n 3, 1, 0, 3, [], 0),
  (741, 742, .iconst 1, 0, 0, 1, [], 0),
  (742, 743, .iadd, 4, 0, 0, [], 0),
  (743, 744, .iaload, 20, 0, 0, [], 0),
  (744, 747, .invokevirtual 97, 27, 0, 179, [], 1106),
  (747, 750, .if_icmp .eq 513, 15, 1260, 0, [], 0),
  (750, 751, .iconst 0, 0, 0, 0, [], 0),
  (751, 752, .ireturn, 29, 0, 1, [], 0),
  (752, 753, .aload_n 1, 1, 1, 1, [], 0),
  (753, 754, .aload_n 0, 1, 1, 0, [], 0),
  (754, 755, .iload_n 3, 1, 0, 3, [], 0),
  (755, 756, .iconst 1, 0, 0, 1, [], 0),
  (756, 757, .iadd, 4, 0, 0, [], 0),
  (757, 758, .iaload, 20, 0, 0, [], 0),
  (758, 759, .aload_n 0, 1, 1, 0, [], 0),
  (759, 760, .iload_n 3, 1, 0, 3, [], 0),
  (760, 761, .iconst 2, 0, 0, 2, [], 0),
  (761, 762, .iadd, 4, 0, 0, [], 0),
  (762, 763, .iaload, 20, 0, 0, [], 0),
  (763, 766, .invokevirtual 98, 27, 0, 104, [], 620),
  (766, 767, .aload_n 2, 1, 1, 2, [], 0),
  (767, 768, .aload_n 0, 1, 1, 0, [], 0),
  (768, 769, .iload_n 3, 1, 0, 3, [], 0),
  (769, 770, .iconst 1, 0, 0, 1, [], 0),
  (770, 771, .iadd, 4, 0, 0, [], 0),
  (771, 772, .iaload, 20, 0, 0, [], 0),
  (772, 773, .aload_n 0, 1, 1, 0, [], 0),
  (773, 774, .iload_n 3, 1, 0, 3, [], 0),
  (774, 775, .iconst 2, 0, 0, 2, [], 0),
  (775, 776, .iadd, 4, 0, 0, [], 0),
  (776, 777, .iaload, 20, 0, 0, [], 0),
  (777, 780, .invokevirtual 101, 27, 0, 181, [], 1110),
  (780, 783, .if_icmp .eq 480, 15, 1260, 0, [], 0),
  (783, 784, .iconst 0, 0, 0, 0, [], 0),
  (784, 785, .ireturn, 29, 0, 1, [], 0),
  (785, 786, .aload_n 1, 1, 1, 1, [], 0),
  (786, 787, .aload_n 0, 1, 1, 0, [], 0),
  (787, 788, .iload_n 3, 1, 0, 3, [], 0),
  (788, 789, .iconst 1, 0, 0, 1, [], 0),
  (789, 790, .iadd, 4, 0, 0, [], 0),
  (790, 791, .iaload, 20, 0, 0, [], 0),
  (791, 792, .aload_n 0, 1, 1, 0, [], 0),
  (792, 793, .iload_n 3, 1, 0, 3, [], 0),
  (793, 794, .iconst 2, 0, 0, 2, [], 0),
  (794, 795, .iadd, 4, 0, 0, [], 0),
  (795, 796, .iaload, 20, 0, 0, [], 0),
  (796, 799, .invokevirtual 102, 27, 0, 105, [], 636),
  (799, 800, .aload_n 2, 1, 1, 2, [], 0),
  (800, 801, .aload_n 0, 1, 1, 0, [], 0),
  (801, 802, .iload_n 3, 1, 0, 3, [], 0),
  (802, 803, .iconst 1, 0, 0, 1, [], 0),
  (803, 804, .iadd, 4, 0, 0, [], 0),
  (804, 805, .iaload, 20, 0, 0, [], 0),
  (805, 806, .aload_n 0, 1, 1, 0, [], 0),
  (806, 807, .iload_n 3, 1, 0, 3, [], 0),
  (807, 808, .iconst 2, 0, 0, 2, [], 0),
  (808, 809, .iadd, 4, 0, 0, [], 0),
  (809, 810, .iaload, 20, 0, 0, [], 0),
  (810, 813, .invokevirtual 105, 27, 0, 183, [], 1117),
  (813, 816, .if_icmp .eq 447, 15, 1260, 0, [], 0),
  (816, 817, .iconst 0, 0, 0, 0, [], 0),
  (817, 818, .ireturn, 29, 0, 1, [], 0),
  (818, 819, .aload_n 1, 1, 1, 1, [], 0),
  (819, 820, .aload_n 0, 1, 1, 0, [], 0),
  (820, 821, .iload_n 3, 1, 0, 3, [], 0),
  (821, 822, .iconst 1, 0, 0, 1, [], 0),
  (822, 823, .iadd, 4, 0, 0, [], 0),
  (823, 824, .iaload, 20, 0, 0, [], 0),
  (824, 825, .aload_n 0, 1, 1, 0, [], 0),
  (825, 826, .iload_n 3, 1, 0, 3, [], 0),
  (826, 827, .iconst 2, 0, 0, 2, [], 0),
  (827, 828, .iadd, 4, 0, 0, [], 0),
  (828, 829, .iaload, 20, 0, 0, [], 0),
  (829, 832, .invokevirtual 106, 27, 0, 106, [], 651),
  (832, 833, .aload_n 2, 1, 1, 2, [], 0),
  (833, 834, .aload_n 0, 1, 1, 0, [], 0),
  (834, 835, .iload_n 3, 1, 0, 3, [], 0),
  (835, 836, .iconst 1, 0, 0, 1, [], 0),
  (836, 837, .iadd, 4, 0, 0, [], 0),
  (837, 838, .iaload, 20, 0, 0, [], 0),
  (838, 839, .aload_n 0, 1, 1, 0, [], 0),
  (839, 840, .iload_n 3, 1, 0, 3, [], 0),
  (840, 841, .iconst 2, 0, 0, 2, [], 0),
  (841, 842, .iadd, 4, 0, 0, [], 0),
  (842, 843, .iaload, 20, 0, 0, [], 0),
  (843, 846, .invokevirtual 109, 27, 0, 184, [], 1128),
  (846, 849, .if_icmp .eq 414, 15, 1260, 0, [], 0),
  (849, 850, .iconst 0, 0, 0, 0, [], 0),
  (850, 851, .ireturn, 29, 0, 1, [], 0),
  (851, 852, .aload_n 1, 1, 1, 1, [], 0),
  (852, 853, .aload_n 0, 1, 1, 0, [], 0),
  (853, 854, .iload_n 3, 1, 0, 3, [], 0),
  (854, 855, .iconst 1, 0, 0, 1, [], 0),
  (855, 856, .iadd, 4, 0, 0, [], 0),
  (856, 857, .iaload, 20, 0, 0, [], 0),
  (857, 860, .invokevirtual 110, 27, 0, 107, [], 660),
  (860, 861, .aload_n 2, 1, 1, 2, [], 0),
  (861, 862, .aload_n 0, 1, 1, 0, [], 0),
  (862, 863, .iload_n 3, 1, 0, 3, [], 0),
  (863, 864, .iconst 1, 0, 0, 1, [], 0),
  (864, 865, .iadd, 4, 0, 0, [], 0),
  (865, 866, .iaload, 20, 0, 0, [], 0),
  (866, 869, .invokevirtual 113, 27, 0, 185, [], 1132),
  (869, 872, .if_icmp .eq 391, 15, 1260, 0, [], 0),
  (872, 873, .iconst 0, 0, 0, 0, [], 0),
  (873, 874, .ireturn, 29, 0, 1, [], 0),
  (874, 875, .aload_n 1, 1, 1, 1, [], 0),
  (875, 876, .aload_n 0, 1, 1, 0, [], 0),
  (876, 877, .iload_n 3, 1, 0, 3, [], 0),
  (877, 878, .iconst 1, 0, 0, 1, [], 0),
  (878, 879, .iadd, 4, 0, 0, [], 0),
  (879, 880, .iaload, 20, 0, 0, [], 0),
  (880, 881, .aload_n 0, 1, 1, 0, [], 0),
  (881, 882, .iload_n 3, 1, 0, 3, [], 0),
  (882, 883, .iconst 2, 0, 0, 2, [], 0),
  (883, 884, .iadd, 4, 0, 0, [], 0),
  (884, 885, .iaload, 20, 0, 0, [], 0),
  (885, 888, .invokevirtual 114, 27, 0, 108, [], 668),
  (888, 889, .aload_n 2, 1, 1, 2, [], 0),
  (889, 890, .aload_n 0, 1, 1, 0, [], 0),
  (890, 891, .iload_n 3, 1, 0, 3, [], 0),
  (891, 892, .iconst 1, 0, 0, 1, [], 0),
  (892, 893, .iadd, 4, 0, 0, [], 0),
  (893, 894, .iaload, 20, 0, 0, [], 0),
  (894, 895, .aload_n 0, 1, 1, 0, [], 0),
  (895, 896, .iload_n 3, 1, 0, 3, [], 0),
  (896, 897, .iconst 2, 0, 0, 2, [], 0),
  (897, 898, .iadd, 4, 0, 0, [], 0),
  (898, 899, .iaload, 20, 0, 0, [], 0),
  (899, 902, .invokevirtual 117, 27, 0, 187, [], 1136),
  (902, 905, .if_icmp .eq 358, 15, 1260, 0, [], 0),
  (905, 906, .iconst 0, 0, 0, 0, [], 0),
  (906, 907, .ireturn, 29, 0, 1, [], 0),
  (907, 908, .aload_n 1, 1, 1, 1, [], 0),
  (908, 909, .aload_n 0, 1, 1, 0, [], 0),
  (909, 910, .iload_n 3, 1, 0, 3, [], 0),
  (910, 911, .iconst 1, 0, 0, 1, [], 0),
  (911, 912, .iadd, 4, 0, 0, [], 0),
  (912, 913, .iaload, 20, 0, 0, [], 0),
  (913, 914, .aload_n 0, 1, 1, 0, [], 0),
  (914, 915, .iload_n 3, 1, 0, 3, [], 0),
  (915, 916, .iconst 2, 0, 0, 2, [], 0),
  (916, 917, .iadd, 4, 0, 0, [], 0),
  (917, 918, .iaload, 20, 0, 0, [], 0),
  (918, 919, .aload_n 0, 1, 1, 0, [], 0),
  (919, 920, .iload_n 3, 1, 0, 3, [], 0),
  (920, 921, .iconst 3, 0, 0, 3, [], 0),
  (921, 922, .iadd, 4, 0, 0, [], 0),
  (922, 923, .iaload, 20, 0, 0, [], 0),
  (923, 924, .aload_n 0, 1, 1, 0, [], 0),
  (924, 925, .iload_n 3, 1, 0, 3, [], 0),
  (925, 926, .iconst 4, 0, 0, 4, [], 0),
  (926, 927, .iadd, 4, 0, 0, [], 0),
  (927, 928, .iaload, 20, 0, 0, [], 0),
  (928, 929, .aload_n 0, 1, 1, 0, [], 0),
  (929, 930, .iload_n 3, 1, 0, 3, [], 0),
  (930, 931, .iconst 5, 0, 0, 5, [], 0),
  (931, 932, .iadd, 4, 0, 0, [], 0),
  (932, 933, .iaload, 20, 0, 0, [], 0),
  (933, 936, .invokevirtual 118, 27, 0, 109, [], 680),
  (936, 937, .aload_n 2, 1, 1, 2, [], 0),
  (937, 938, .aload_n 0, 1, 1, 0, [], 0),
  (938, 939, .iload_n 3, 1, 0, 3, [], 0),
  (939, 940, .iconst 1, 0, 0, 1, [], 0),
  (940, 941, .iadd, 4, 0, 0, [], 0),
  (941, 942, .iaload, 20, 0, 0, [], 0),
  (942, 943, .aload_n 0, 1, 1, 0, [], 0),
  (943, 944, .iload_n 3, 1, 0, 3, [], 0),
  (944, 945, .iconst 2, 0, 0, 2, [], 0),
  (945, 946, .iadd, 4, 0, 0, [], 0),
  (946, 947, .iaload, 20, 0, 0, [], 0),
  (947, 948, .aload_n 0, 1, 1, 0, [], 0),
  (948, 949, .iload_n 3, 1, 0, 3, [], 0),
  (949, 950, .iconst 3, 0, 0, 3, [], 0),
  (950, 951, .iadd, 4, 0, 0, [], 0),
  (951, 952, .iaload, 20, 0, 0, [], 0),
  (952, 953, .aload_n 0, 1, 1, 0, [], 0),
  (953, 954, .iload_n 3, 1, 0, 3, [], 0),
  (954, 955, .iconst 4, 0, 0, 4, [], 0),
  (955, 956, .iadd, 4, 0, 0, [], 0),
  (956, 957, .iaload, 20, 0, 0, [], 0),
  (957, 958, .aload_n 0, 1, 1, 0, [], 0),
  (958, 959, .iload_n 3, 1, 0, 3, [], 0),
  (959, 960, .iconst 5, 0, 0, 5, [], 0),
  (960, 961, .iadd, 4, 0, 0, [], 0),
  (961, 962, .iaload, 20, 0, 0, [], 0),
  (962, 965, .invokevirtual 121, 27, 0, 189, [], 1144),
  (965, 968, .if_icmp .eq 295, 15, 1260, 0, [], 0),
  (968, 969, .iconst 0, 0, 0, 0, [], 0),
  (969, 970, .ireturn, 29, 0, 1, [], 0),
  (970, 971, .aload_n 1, 1, 1, 1, [], 0),
  (971, 972, .aload_n 0, 1, 1, 0, [], 0),
  (972, 973, .iload_n 3, 1, 0, 3, [], 0),
  (973, 974, .iconst 1, 0, 0, 1, [], 0),
  (974, 975, .iadd, 4, 0, 0, [], 0),
  (975, 976, .iaload, 20, 0, 0, [], 0),
  (976, 977, .aload_n 0, 1, 1, 0, [], 0),
  (977, 978, .iload_n 3, 1, 0, 3, [], 0),
  (978, 979, .iconst 2, 0, 0, 2, [], 0),
  (979, 980, .iadd, 4, 0, 0, [], 0),
  (980, 981, .iaload, 20, 0, 0, [], 0),
  (981, 982, .aload_n 0, 1, 1, 0, [], 0),
  (982, 983, .iload_n 3, 1, 0, 3, [], 0),
  (983, 984, .iconst 3, 0, 0, 3, [], 0),
  (984, 985, .iadd, 4, 0, 0, [], 0),
  (985, 986, .iaload, 20, 0, 0, [], 0),
  (986, 987, .aload_n 0, 1, 1, 0, [], 0),
  (987, 988, .iload_n 3, 1, 0, 3, [], 0),
  (988, 989, .iconst 4, 0, 0, 4, [], 0),
  (989, 990, .iadd, 4, 0, 0, [], 0),
  (990, 991, .iaload, 20, 0, 0, [], 0),
  (991, 994, .invokevirtual 122, 27, 0, 110, [], 704),
  (994, 995, .aload_n 2, 1, 1, 2, [], 0),
  (995, 996, .aload_n 0, 1, 1, 0, [], 0),
  (996, 997, .iload_n 3, 1, 0, 3, [], 0),
  (997, 998, .iconst 1, 0, 0, 1, [], 0),
  (998, 999, .iadd, 4, 0, 0, [], 0),
  (999, 1000, .iaload, 20, 0, 0, [], 0),
  (1000, 1001, .aload_n 0, 1, 1, 0, [], 0),
  (1001, 1002, .iload_n 3, 1, 0, 3, [], 0),
  (1002, 1003, .iconst 2, 0, 0, 2, [], 0),
  (1003, 1004, .iadd, 4, 0, 0, [], 0),
  (1004, 1005, .iaload, 20, 0, 0, [], 0),
  (1005, 1006, .aload_n 0, 1, 1, 0, [], 0),
  (1006, 1007, .iload_n 3, 1, 0, 3, [], 0),
  (1007, 1008, .iconst 3, 0, 0, 3, [], 0),
  (1008, 1009, .iadd, 4, 0, 0, [], 0),
  (1009, 1010, .iaload, 20, 0, 0, [], 0),
  (1010, 1011, .aload_n 0, 1, 1, 0, [], 0),
  (1011, 1012, .iload_n 3, 1, 0, 3, [], 0),
  (1012, 1013, .iconst 4, 0, 0, 4, [], 0),
  (1013, 1014, .iadd, 4, 0, 0, [], 0),
  (1014, 1015, .iaload, 20, 0, 0, [], 0),
  (1015, 1018, .invokevirtual 126, 27, 0, 190, [], 1152),
  (1018, 1021, .if_icmp .eq 242, 15, 1260, 0, [], 0),
  (1021, 1022, .iconst 0, 0, 0, 0, [], 0),
  (1022, 1023, .ireturn, 29, 0, 1, [], 0),
  (1023, 1024, .aload_n 1, 1, 1, 1, [], 0),
  (1024, 1025, .aload_n 0, 1, 1, 0, [], 0),
  (1025, 1026, .iload_n 3, 1, 0, 3, [], 0),
  (1026, 1027, .iconst 1, 0, 0, 1, [], 0),
  (1027, 1028, .iadd, 4, 0, 0, [], 0),
  (1028, 1029, .iaload, 20, 0, 0, [], 0),
  (1029, 1030, .aload_n 0, 1, 1, 0, [], 0),
  (1030, 1031, .iload_n 3, 1, 0, 3, [], 0),
  (1031, 1032, .iconst 2, 0, 0, 2, [], 0),
  (1032, 1033, .iadd, 4, 0, 0, [], 0),
  (1033, 1034, .iaload, 20, 0, 0, [], 0),
  (1034, 1035, .aload_n 0, 1, 1, 0, [], 0),
  (1035, 1036, .iload_n 3, 1, 0, 3, [], 0),
  (1036, 1037, .iconst 3, 0, 0, 3, [], 0),
  (1037, 1038, .iadd, 4, 0, 0, [], 0),
  (1038, 1039, .iaload, 20, 0, 0, [], 0),
  (1039, 1042, .invokevirtual 127, 27, 0, 111, [], 724),
  (1042, 1043, .aload_n 2, 1, 1, 2, [], 0),
  (1043, 1044, .aload_n 0, 1, 1, 0, [], 0),
  (1044, 1045, .iload_n 3, 1, 0, 3, [], 0),
  (1045, 1046, .iconst 1, 0, 0, 1, [], 0),
  (1046, 1047, .iadd, 4, 0, 0, [], 0),
  (1047, 1048, .iaload, 20, 0, 0, [], 0),
  (1048, 1049, .aload_n 0, 1, 1, 0, [], 0),
  (1049, 1050, .iload_n 3, 1, 0, 3, [], 0),
  (1050, 1051, .iconst 2, 0, 0, 2, [], 0),
  (1051, 1052, .iadd, 4, 0, 0, [], 0),
  (1052, 1053, .iaload, 20, 0, 0, [], 0),
  (1053, 1054, .aload_n 0, 1, 1, 0, [], 0),
  (1054, 1055, .iload_n 3, 1, 0, 3, [], 0),
  (1055, 1056, .iconst 3, 0, 0, 3, [], 0),
  (1056, 1057, .iadd, 4, 0, 0, [], 0),
  (1057, 1058, .iaload, 20, 0, 0, [], 0),
  (1058, 1061, .invokevirtual 130, 27, 0, 191, [], 1156),
  (1061, 1064, .if_icmp .eq 199, 15, 1260, 0, [], 0),
  (1064, 1065, .iconst 0, 0, 0, 0, [], 0),
  (1065, 1066, .ireturn, 29, 0, 1, [], 0),
  (1066, 1067, .aload_n 1, 1, 1, 1, [], 0),
  (1067, 1068, .aload_n 0, 1, 1, 0, [], 0),
  (1068, 1069, .iload_n 3, 1, 0, 3, [], 0),
  (1069, 1070, .iconst 1, 0, 0, 1, [], 0),
  (1070, 1071, .iadd, 4, 0, 0, [], 0),
  (1071, 1072, .iaload, 20, 0, 0, [], 0),
  (1072, 1075, .invokevirtual 131, 27, 0, 112, [], 747),
  (1075, 1076, .aload_n 2, 1, 1, 2, [], 0),
  (1076, 1077, .aload_n 0, 1, 1, 0, [], 0),
  (1077, 1078, .iload_n 3, 1, 0, 3, [], 0),
  (1078, 1079, .iconst 1, 0, 0, 1, [], 0),
  (1079, 1080, .iadd, 4, 0, 0, [], 0),
  (1080, 1081, .iaload, 20, 0, 0, [], 0),
  (1081, 1084, .invokevirtual 134, 27, 0, 192, [], 1165),
  (1084, 1087, .if_icmp .eq 176, 15, 1260, 0, [], 0),
  (1087, 1088, .iconst 0, 0, 0, 0, [], 0),
  (1088, 1089, .ireturn, 29, 0, 1, [], 0),
  (1089, 1090, .aload_n 1, 1, 1, 1, [], 0),
  (1090, 1091, .aload_n 0, 1, 1, 0, [], 0),
  (1091, 1092, .iload_n 3, 1, 0, 3, [], 0),
  (1092, 1093, .iconst 1, 0, 0, 1, [], 0),
  (1093, 1094, .iadd, 4, 0, 0, [], 0),
  (1094, 1095, .iaload, 20, 0, 0, [], 0),
  (1095, 1098, .invokevirtual 135, 27, 0, 113, [], 756),
  (1098, 1099, .aload_n 2, 1, 1, 2, [], 0),
  (1099, 1100, .aload_n 0, 1, 1, 0, [], 0),
  (1100, 1101, .iload_n 3, 1, 0, 3, [], 0),
  (1101, 1102, .iconst 1, 0, 0, 1, [], 0),
  (1102, 1103, .iadd, 4, 0, 0, [], 0),
  (1103, 1104, .iaload, 20, 0, 0, [], 0),
  (1104, 1107, .invokevirtual 138, 27, 0, 193, [], 1169),
  (1107, 1110, .if_icmp .eq 153, 15, 1260, 0, [], 0),
  (1110, 1111, .iconst 0, 0, 0, 0, [], 0),
  (1111, 1112, .ireturn, 29, 0, 1, [], 0),
  (1112, 1113, .aload_n 1, 1, 1, 1, [], 0),
  (1113, 1114, .aload_n 0, 1, 1, 0, [], 0),
  (1114, 1115, .iload_n 3, 1, 0, 3, [], 0),
  (1115, 1116, .iconst 1, 0, 0, 1, [], 0),
  (1116, 1117, .iadd, 4, 0, 0, [], 0),
  (1117, 1118, .iaload, 20, 0, 0, [], 0),
  (1118, 1121, .invokevirtual 139, 27, 0, 114, [], 769),
  (1121, 1122, .aload_n 2, 1, 1, 2, [], 0),
  (1122, 1123, .aload_n 0, 1, 1, 0, [], 0),
  (1123, 1124, .iload_n 3, 1, 0, 3, [], 0),
  (1124, 1125, .iconst 1, 0, 0, 1, [], 0),
  (1125, 1126, .iadd, 4, 0, 0, [], 0),
  (1126, 1127, .iaload, 20, 0, 0, [], 0),
  (1127, 1130, .invokevirtual 142, 27, 0, 195, [], 1173),
  (1130, 1133, .if_icmp .eq 130, 15, 1260, 0, [], 0),
  (1133, 1134, .iconst 0, 0, 0, 0, [], 0),
  (1134, 1135, .ireturn, 29, 0, 1, [], 0),
  (1135, 1136, .aload_n 1, 1, 1, 1, [], 0),
  (1136, 1137, .aload_n 0, 1, 1, 0, [], 0),
  (1137, 1138, .iload_n 3, 1, 0, 3, [], 0),
  (1138, 1139, .iconst 1, 0, 0, 1, [], 0),
  (1139, 1140, .iadd, 4, 0, 0, [], 0),
  (1140, 1141, .iaload, 20, 0, 0, [], 0),
  (1141, 1142, .aload_n 0, 1, 1, 0, [], 0),
  (1142, 1143, .iload_n 3, 1, 0, 3, [], 0),
  (1143, 1144, .iconst 2, 0, 0, 2, [], 0),
  (1144, 1145, .iadd, 4, 0, 0, [], 0),
  (1145, 1146, .iaload, 20, 0, 0, [], 0),
  (1146, 1149, .invokevirtual 143, 27, 0, 115, [], 773),
  (1149, 1150, .aload_n 2, 1, 1, 2, [], 0),
  (1150, 1151, .aload_n 0, 1, 1, 0, [], 0),
  (1151, 1152, .iload_n 3, 1, 0, 3, [], 0),
  (1152, 1153, .iconst 1, 0, 0, 1, [], 0),
  (1153, 1154, .iadd, 4, 0, 0, [], 0),
  (1154, 1155, .iaload, 20, 0, 0, [], 0),
  (1155, 1156, .aload_n 0, 1, 1, 0, [], 0),
  (1156, 1157, .iload_n 3, 1, 0, 3, [], 0),
  (1157, 1158, .iconst 2, 0, 0, 2, [], 0),
  (1158, 1159, .iadd, 4, 0, 0, [], 0),
  (1159, 1160, .iaload, 20, 0, 0, [], 0),
  (1160, 1163, .invokevirtual 146, 27, 0, 196, [], 1181),
  (1163, 1166, .if_icmp .eq 97, 15, 1260, 0, [], 0),
  (1166, 1167, .iconst 0, 0, 0, 0, [], 0),
  (1167, 1168, .ireturn, 29, 0, 1, [], 0),
  (1168, 1169, .aload_n 1, 1, 1, 1, [], 0),
  (1169, 1170, .aload_n 0, 1, 1, 0, [], 0),
  (1170, 1171, .iload_n 3, 1, 0, 3, [], 0),
  (1171, 1172, .iconst 1, 0, 0, 1, [], 0),
  (1172, 1173, .iadd, 4, 0, 0, [], 0),
  (1173, 1174, .iaload, 20, 0, 0, [], 0),
  (1174, 1175, .aload_n 0, 1, 1, 0, [], 0),
  (1175, 1176, .iload_n 3, 1, 0, 3, [], 0),
  (1176, 1177, .iconst 2, 0, 0, 2, [], 0),
  (1177, 1178, .iadd, 4, 0, 0, [], 0),
  (1178, 1179, .iaload, 20, 0, 0, [], 0),
  (1179, 1182, .invokevirtual 147, 27, 0, 116, [], 782),
  (1182, 1183, .aload_n 2, 1, 1, 2, [], 0),
  (1183, 1184, .aload_n 0, 1, 1, 0, [], 0),
  (1184, 1185, .iload_n 3, 1, 0, 3, [], 0),
  (1185, 1186, .iconst 1, 0, 0, 1, [], 0),
  (1186, 1187, .iadd, 4, 0, 0, [], 0),
  (1187, 1188, .iaload, 20, 0, 0, [], 0),
  (1188, 1189, .aload_n 0, 1, 1, 0, [], 0),
  (1189, 1190, .iload_n 3, 1, 0, 3, [], 0),
  (1190, 1191, .iconst 2, 0, 0, 2, [], 0),
  (1191, 1192, .iadd, 4, 0, 0, [], 0),
  (1192, 1193, .iaload, 20, 0, 0, [], 0),
  (1193, 1196, .invokevirtual 150, 27, 0, 202, [], 1185),
  (1196, 1199, .if_icmp .eq 64, 15, 1260, 0, [], 0),
  (1199, 1200, .iconst 0, 0, 0, 0, [], 0),
  (1200, 1201, .ireturn, 29, 0, 1, [], 0),
  (1201, 1202, .aload_n 1, 1, 1, 1, [], 0),
  (1202, 1203, .aload_n 0, 1, 1, 0, [], 0),
  (1203, 1204, .iload_n 3, 1, 0, 3, [], 0),
  (1204, 1205, .iconst 1, 0, 0, 1, [], 0),
  (1205, 1206, .iadd, 4, 0, 0, [], 0),
  (1206, 1207, .iaload, 20, 0, 0, [], 0),
  (1207, 1210, .invokevirtual 151, 27, 0, 117, [], 806),
  (1210, 1211, .aload_n 2, 1, 1, 2, [], 0),
  (1211, 1212, .aload_n 0, 1, 1, 0, [], 0),
  (1212, 1213, .iload_n 3, 1, 0, 3, [], 0),
  (1213, 1214, .iconst 1, 0, 0, 1, [], 0),
  (1214, 1215, .iadd, 4, 0, 0, [], 0),
  (1215, 1216, .iaload, 20, 0, 0, [], 0),
  (1216, 1219, .invokevirtual 154, 27, 0, 203, [], 1209),
  (1219, 1222, .if_icmp .eq 41, 15, 1260, 0, [], 0),
  (1222, 1223, .iconst 0, 0, 0, 0, [], 0),
  (1223, 1224, .ireturn, 29, 0, 1, [], 0),
  (1224, 1225, .aload_n 1, 1, 1, 1, [], 0),
  (1225, 1226, .aload_n 0, 1, 1, 0, [], 0),
  (1226, 1227, .iload_n 3, 1, 0, 3, [], 0),
  (1227, 1228, .iconst 1, 0, 0, 1, [], 0),
  (1228, 1229, .iadd, 4, 0, 0, [], 0),
  (1229, 1230, .iaload, 20, 0, 0, [], 0),
  (1230, 1233, .invokevirtual 155, 27, 0, 118, [], 815),
  (1233, 1234, .aload_n 2, 1, 1, 2, [], 0),
  (1234, 1235, .aload_n 0, 1, 1, 0, [], 0),
  (1235, 1236, .iload_n 3, 1, 0, 3, [], 0),
  (1236, 1237, .iconst 1, 0, 0, 1, [], 0),
  (1237, 1238, .iadd, 4, 0, 0, [], 0),
  (1238, 1239, .iaload, 20, 0, 0, [], 0),
  (1239, 1242, .invokevirtual 158, 27, 0, 204, [], 1213),
  (1242, 1245, .if_icmp .eq 18, 15, 1260, 0, [], 0),
  (1245, 1246, .iconst 0, 0, 0, 0, [], 0),
  (1246, 1247, .ireturn, 29, 0, 1, [], 0),
  (1247, 1248, .aload_n 1, 1, 1, 1, [], 0),
  (1248, 1251, .invokevirtual 159, 27, 0, 119, [], 824),
  (1251, 1252, .aload_n 2, 1, 1, 2, [], 0),
  (1252, 1255, .invokevirtual 162, 27, 0, 205, [], 1217),
  (1255, 1258, .if_icmp .eq 5, 15, 1260, 0, [], 0),
  (1258, 1259, .iconst 0, 0, 0, 0, [], 0),
  (1259, 1260, .ireturn, 29, 0, 1, [], 0),
  (1260, 1263, .iinc 3 6, 3, 6, 3, [], 0),
  (1263, 1266, .goto (-1245), 16, 18, 0, [], 0),
  (1266, 1267, .iconst 1, 0, 0, 1, [], 0),
  (1267, 1268, .ireturn, 29, 0, 1, [], 0)]
/-- PuddingHobsLaw.law([I)Z -/
def hm_T208 : hm_X := (yL_law, code, 4, (some .boolean), true, 1, [0, 55, 0, 0], hm_P208)
def hm_tabM : List hm_X := [hm_T0, hm_T1, hm_T2, hm_T3, hm_T4, hm_T5, hm_T6, hm_T7, hm_T8, hm_T9, hm_T10, hm_T11, hm_T12, hm_T13, hm_T14, hm_T15, hm_T16, hm_T17, hm_T18, hm_T19, hm_T20, hm_T21, hm_T22, hm_T23, hm_T24, hm_T25, hm_T26, hm_T27, hm_T28, hm_T29, hm_T30, hm_T31, hm_T32, hm_T33, hm_T34, hm_T35, hm_T36, hm_T37, hm_T38, hm_T39, hm_T40, hm_T41, hm_T42, hm_T43, hm_T44, hm_T45, hm_T46, hm_T47, hm_T48, hm_T49, hm_T50, hm_T51, hm_T52, hm_T53, hm_T54, hm_T55, hm_T56, hm_T57, hm_T58, hm_T59, hm_T60, hm_T61, hm_T62, hm_T63, hm_T64, hm_T65, hm_T66, hm_T67, hm_T68, hm_T69, hm_T70, hm_T71, hm_T72, hm_T73, hm_T74, hm_T75, hm_T76, hm_T77, hm_T78, hm_T79, hm_T80, hm_T81, hm_T82, hm_T83, hm_T84, hm_T85, hm_T86, hm_T87, hm_T88, hm_T89, hm_T90, hm_T91, hm_T92, hm_T93, hm_T94, hm_T95, hm_T96, hm_T97, hm_T98, hm_T99, hm_T100, hm_T101, hm_T102, hm_T103, hm_T104, hm_T105, hm_T106, hm_T107, hm_T108, hm_T109, hm_T110, hm_T111, hm_T112, hm_T113, hm_T114, hm_T115, hm_T116, hm_T117, hm_T118, hm_T119, hm_T120, hm_T121, hm_T122, hm_T123, hm_T124, hm_T125, hm_T126, hm_T127, hm_T128, hm_T129, hm_T130, hm_T131, hm_T132, hm_T133, hm_T134, hm_T135, hm_T136, hm_T137, hm_T138, hm_T139, hm_T140, hm_T141, hm_T142, hm_T143, hm_T144, hm_T145, hm_T146, hm_T147, hm_T148, hm_T149, hm_T150, hm_T151, hm_T152, hm_T153, hm_T154, hm_T155, hm_T156, hm_T157, hm_T158, hm_T159, hm_T160, hm_T161, hm_T162, hm_T163, hm_T164, hm_T165, hm_T166, hm_T167, hm_T168, hm_T169, hm_T170, hm_T171, hm_T172, hm_T173, hm_T174, hm_T175, hm_T176, hm_T177, hm_T178, hm_T179, hm_T180, hm_T181, hm_T182, hm_T183, hm_T184, hm_T185, hm_T186, hm_T187, hm_T188, hm_T189, hm_T190, hm_T191, hm_T192, hm_T193, hm_T194, hm_T195, hm_T196, hm_T197, hm_T198, hm_T199, hm_T200, hm_T201, hm_T202, hm_T203, hm_T204, hm_T205, hm_T206, hm_T207]
def hm_tab : List hm_X := hm_tabM ++ [hm_T208]
end
section
def hm_tb : List (MethodName × Nat × Bool) := [(yX0_keep, 2, false), (yX0_takeBack, 2, false), (yX0_forgetAll, 1, false), (yX0_left, 1, false), (yX1_isA, 2, true), (yX1_answerAnew, 3, false), (yX1_traced, 2, false), (yX1_bodyOf, 3, false), (yX1_begin, 4, false), (yX1_leave, 2, false), (yX2_swellBehind, 3, false), (yX2_burstBehind, 2, false), (yX2_hoursTillBurst, 2, false), (yX2_firstToBurst, 2, false), (yX2_fewestStirs, 3, false), (yX2_fewestOff, 2, false), (yX2_bestChange, 3, false), (yX2_greatestHeat, 2, false), (yX2_fitting, 4, false), (yX2_alterTrial, 4, false), (yX2_trialIsAsTold, 3, false), (yX2_chanceWithMice, 5, false), (yX2_weightOf, 3, false), (yX2_burstsWithMice, 4, false), (yX2_greatestDivisor, 2, true), (yX2_century, 4, false), (yX2_meddle, 2, false), (yX2_beginTrial, 1, false), (yX2_boilTrial, 2, false), (yX2_trialBursts, 3, false), (yX2_trialBurstsNone, 2, false), (yX3_isNone, 1, false), (yX3_has, 2, false), (yX3_isOn, 2, false), (yX3_isBurst, 2, false), (yX3_isStirred, 2, false), (yX3_clear, 1, false), (yX3_add, 4, false), (yX3_takeFrom, 2, false), (yX3_writeTo, 3, false), (yX3_readFrom, 3, false), (yX3_glowOf, 2, false), (yX3_growthOf, 2, false), (yX3_boil, 1, false), (yX3_aboveCloth, 1, false), (yX3_pushNeighbours, 2, false), (yX3_placesOf, 2, false), (yX3_raise, 3, false), (yX3_stirOnce, 2, false), (yX3_turn, 2, false), (yX3_exchange, 3, false), (yX3_swellTogether, 1, false), (yX3_slicesOf, 3, false), (yX3_plumsTogether, 1, false), (yX4_keep, 3, false), (yX4_isKept, 2, false), (yX4_showTo, 3, false), (yX5_isRow, 1, true), (yX5_isLane, 1, true), (yX5_isMissing, 2, false), (yX5_haveOneLane, 3, false), (yX5_hasRun, 4, false), (yX5_held, 1, false), (yX5_make, 4, false), (yX5_put, 4, false), (yX5_item, 3, false), (yX5_move, 6, false), (yX5_forget, 2, false), (yX5_startOf, 1, true), (yX5_cutTo, 2, true), (yX6_size, 1, false), (yX6_latestFault, 1, false), (yX6_faultPlace, 1, false), (yX6_append, 2, false), (yX6_readInto, 2, false), (yX6_readLaw, 2, false), (yX6_readBasin, 2, false), (yX6_readPair, 4, false), (yX6_readNumber, 3, false), (yX6_readSign, 2, false), (yX6_byteHere, 1, false), (yX6_figuresHere, 1, false), (yX6_sortHere, 1, false), (yX6_faultHere, 2, false), (yX7_row, 4, false), (yX7_set, 4, false), (yX7_copy, 6, false), (yX7_drop, 2, false), (yX7_feed, 2, false), (yX7_hob, 1, false), (yX7_fault, 1, false), (yX7_hours, 2, false), (yX7_stir, 2, false), (yX7_on, 3, false), (yX7_swap, 3, false), (yX7_plums, 3, false), (yX7_heat, 2, false), (yX7_undo, 1, false), (yX7_basin, 3, false), (yX7_place, 2, false), (yX7_swell, 3, false), (yX7_burst, 2, false), (yX7_bursting, 2, false), (yX7_first, 2, false), (yX7_stirs, 3, false), (yX7_off, 3, false), (yX7_change, 3, false), (yX7_hottest, 2, false), (yX7_slices, 3, false), (yX7_fits, 6, false), (yX7_mice, 5, false), (yX7_drawn, 4, false), (yX7_image, 2, false), (yX7_restore, 2, false), (yX7_kind, 2, false), (yX7_as, 3, false), (yX7_ask, 3, false), (yX7_trace, 2, false), (yX7_count, 2, false), (yX7_status, 1, false), (yX7_found, 2, false), (yX7_unfound, 2, false), (yX7_isBit, 1, true), (yX7_isSpan, 1, true), (yX8_in, 3, true), (yX8_has, 2, true), (yX8_ones, 1, true), (yX8_lesser, 2, true), (yX8_found, 2, false), (yX8_well, 2, false), (yX8_copies, 4, true), (yX8_isRow, 1, true), (yX8_isMissing, 2, false), (yX8_cut, 2, true), (yX8_row, 4, false), (yX8_set, 4, false), (yX8_isPart, 4, false), (yX8_copy, 6, false), (yX8_drop, 2, false), (yX8_feed, 2, false), (yX8_byteAt, 2, false), (yX8_advances, 1, false), (yX8_isWell, 1, false), (yX8_takes, 3, false), (yX8_figure, 3, false), (yX8_kindOf, 1, true), (yX8_follows, 3, false), (yX8_readsBasin, 1, false), (yX8_must, 2, false), (yX8_hob, 1, false), (yX8_fault, 1, false), (yX8_isHob, 1, false), (yX8_isBasin, 2, false), (yX8_isBurst, 2, false), (yX8_glow, 2, true), (yX8_swelling, 2, true), (yX8_areSo, 2, true), (yX8_ripe, 1, true), (yX8_inPlace, 2, true), (yX8_isOf, 3, true), (yX8_swells, 3, true), (yX8_bursts, 2, true), (yX8_passes, 1, true), (yX8_stirsOne, 2, true), (yX8_changes, 3, true), (yX8_notes, 1, false), (yX8_hours, 2, false), (yX8_stir, 2, false), (yX8_on, 3, false), (yX8_swap, 3, false), (yX8_plums, 3, false), (yX8_heat, 2, false), (yX8_undo, 1, false), (yX8_basin, 3, false), (yX8_place, 2, false), (yX8_goesOn, 2, false), (yX8_swell, 3, false), (yX8_burst, 2, false), (yX8_bursting, 2, false), (yX8_first, 2, false), (yX8_isNear, 1, true), (yX8_stirs, 3, false), (yX8_noneBursts, 2, false), (yX8_off, 3, false), (yX8_change, 3, false), (yX8_hottest, 2, false), (yX8_plumsIn, 2, false), (yX8_slices, 3, false), (yX8_swellsSo, 6, false), (yX8_fits, 6, false), (yX8_mice, 5, false), (yX8_drawn, 4, false), (yX8_image, 2, false), (yX8_restore, 2, false), (yX8_kindIn, 2, false), (yX8_kind, 2, false), (yX8_as, 3, false), (yX8_begins, 2, false), (yX8_plainMark, 2, false), (yX8_blackSize, 2, false), (yX8_plainSize, 2, false), (yX8_blackMark, 2, false), (yX8_ask, 3, false), (yX8_trace, 2, false), (yX8_count, 2, false), (yX8_status, 1, false), (yJ6_numberOfTrailingZeros_0f7a4, 1, true), (yJ6_bitCount_0f7a4, 1, true), (yL_law, 1, true)]
set_option maxRecDepth 100000 in
theorem hm_tb_eq : hm_tb = hm_tab.map (fun t => (t.1, t.2.2.2.2.2.1, t.2.2.2.2.1)) := rfl
abbrev hm_okT (t : hm_X) : Prop := t.2.2.2.2.2.2.2.all (hm_chkI hm_tb t.1.cls t.2.1 t.2.2.2.1) = true
/-- the operation at a place of a method: next place, operation, numbers, list -/
def hm_at (mid pc : Nat) : Option (Nat × Nat × Int × Nat × List (Int × Nat)) :=
  match hm_tab[mid]? with
  | none => none
  | some t => match t.2.2.2.2.2.2.2.find? (fun q => q.1 == pc) with
    | none => none
    | some q => some (q.2.1, q.2.2.2.1, q.2.2.2.2.1, q.2.2.2.2.2.1, q.2.2.2.2.2.2.1)
/-- n: steps that may be done, d: calls that may stand open -/
def hm_run : (n d mid pc : Nat) → hm_L → List hm_V → hm_M → Option (Option hm_V × hm_M)
  | 0, _, _, _, _, _, _ => none
  | n + 1, d, mid, pc, ls, st, M =>
    match hm_at mid pc with
    | none => none
    | some (nx, op, a, b, l) =>
      if op = 29 then
        match st with
        | [.inl x] => if b = 1 ∧ ¬ (x = 0 ∨ x = 1) then none else some (some (.inl x), M)
        | _ => none
      else if op = 30 then
        match st with
        | [] => some (none, M)
        | _ => none
      else if op = 27 then
        match d, hm_tabM[b]? with
        | d' + 1, some t =>
          if t.2.2.2.2.2.1 ≤ st.length ∧ (st.drop t.2.2.2.2.2.1).length ≤ 4 ∧ hm_recv t.1 t.2.2.2.2.1 (st.take t.2.2.2.2.2.1).reverse = true ∧ (hm_ent t.2.2.1 (st.take t.2.2.2.2.2.1).reverse).length = t.2.2.1 then
            match hm_run n d' b 0 (hm_ent t.2.2.1 (st.take t.2.2.2.2.2.1).reverse) [] M with
            | some (r, M1) => hm_run n d mid nx ls (r.toList ++ st.drop t.2.2.2.2.2.1) M1
            | none => none
          else none
        | _, _ => none
      else
        match hm_step d nx op a b l ls st M with
        | some (pc', ls', st', M1) => hm_run n d mid pc' ls' st' M1
        | none => none
end
section
def hm_dv (ad : Nat → Nat) (v : hm_V) : Value :=
  match v with
  | .inl x => .int x
  | .inr (.inl x) => .long x
  | .inr (.inr k) => .ref (ad k)
def hm_fv (ad : Nat → Nat) (M : hm_M) (k j : Nat) (f : Option Nat) : Value :=
  match f with
  | none => .int (M k j)
  | some q => .ref (ad q)
def hm_e (cI cZ : ClassId) (ad : Nat → Nat) (M : hm_M) (k : Nat) (s : hm_S) : va_E :=
  match s with
  | .inl (z, n) => .inl (if z = true then cZ else cI, n, .inl (M k))
  | .inr (c, fl) => .inr (c, fl.mapIdx (fun j f => hm_fv ad M k j f))
def hm_w (cI cZ : ClassId) (ad : Nat → Nat) (M : hm_M) : va_W := hm_sh.mapIdx (fun k s => (ad k, hm_e cI cZ ad M k s))
theorem hm_w_get {cI cZ : ClassId} {ad : Nat → Nat} {M : hm_M} {k : Nat} {s : hm_S} (h : hm_sh[k]? = some s) : (hm_w cI cZ ad M)[k]? = some (ad k, hm_e cI cZ ad M k s) := by
  simp [hm_w, List.getElem?_mapIdx, h]
theorem hm_w_of {cI cZ : ClassId} {ad : Nat → Nat} {M : hm_M} {k : Nat} {q : Nat × va_E} (h : (hm_w cI cZ ad M)[k]? = some q) : ∃ s, hm_sh[k]? = some s ∧ q = (ad k, hm_e cI cZ ad M k s) := by
  simp only [hm_w, List.getElem?_mapIdx, Option.map_eq_some_iff] at h
  obtain ⟨s, h1, h2⟩ := h
  exact ⟨s, h1, h2.symm⟩
theorem hm_w_no {cI cZ : ClassId} {ad : Nat → Nat} {M : hm_M} {k : Nat} (h : hm_sh[k]? = none) : (hm_w cI cZ ad M)[k]? = none := by
  simp only [hm_w, List.getElem?_mapIdx, h, Option.map_none]
theorem hm_e_ne {cI cZ : ClassId} {ad : Nat → Nat} {M : hm_M} {k i : Nat} {f : Nat → Int32} {s : hm_S} (h : i ≠ k) : hm_e cI cZ ad (hm_row M k f) i s = hm_e cI cZ ad M i s := by
  have e : hm_row M k f i = M i := by simp [hm_row, h]
  rcases s with ⟨z, n⟩ | ⟨c, fl⟩
  · simp [hm_e, e]
  · simp only [hm_e]
    congr 2
    congr 1
    funext j g
    cases g <;> simp [hm_fv, e]
theorem hm_w_arr {cI cZ : ClassId} {ad : Nat → Nat} {M : hm_M} {k n : Nat} {z : Bool} {f : Nat → Int32} (h : hm_sh[k]? = some (.inl (z, n))) : (hm_w cI cZ ad M).set k (ad k, .inl (if z = true then cZ else cI, n, .inl f)) = hm_w cI cZ ad (hm_row M k f) := by
  apply List.ext_getElem?
  intro i
  by_cases hi : i = k
  · subst hi
    have hl : i < (hm_w cI cZ ad M).length := (List.getElem?_eq_some_iff.mp (hm_w_get (M := M) h)).1
    rw [List.getElem?_set_self hl, hm_w_get h]
    simp [hm_e, hm_row]
  · rw [List.getElem?_set_ne (Ne.symm hi)]
    cases hs : hm_sh[i]? with
    | none => rw [hm_w_no hs, hm_w_no hs]
    | some s => rw [hm_w_get hs, hm_w_get hs, hm_e_ne hi]
theorem hm_w_fld {cI cZ : ClassId} {ad : Nat → Nat} {M : hm_M} {k c j : Nat} {fl : List (Option Nat)} {v : Int32} (h : hm_sh[k]? = some (.inr (c, fl))) (hj : fl[j]? = some none) : (hm_w cI cZ ad M).set k (ad k, .inr (c, (fl.mapIdx (fun j f => hm_fv ad M k j f)).set j (.int v))) = hm_w cI cZ ad (hm_up M k j v) := by
  apply List.ext_getElem?
  intro i
  by_cases hi : i = k
  · subst hi
    have hl : i < (hm_w cI cZ ad M).length := (List.getElem?_eq_some_iff.mp (hm_w_get (M := M) h)).1
    rw [List.getElem?_set_self hl, hm_w_get h]
    simp only [hm_e]
    congr 4
    apply List.ext_getElem?
    intro x
    have hjl : j < fl.length := (List.getElem?_eq_some_iff.mp hj).1
    by_cases hx : x = j
    · subst hx
      rw [List.getElem?_set_self (by simpa using hjl), List.getElem?_mapIdx, hj]
      simp [hm_fv, hm_up, hm_row, upd]
    · rw [List.getElem?_set_ne (Ne.symm hx), List.getElem?_mapIdx, List.getElem?_mapIdx]
      cases fl[x]? with
      | none => rfl
      | some g => cases g <;> simp [hm_fv, hm_up, hm_row, upd, hx]
  · rw [List.getElem?_set_ne (Ne.symm hi)]
    cases hs : hm_sh[i]? with
    | none => rw [hm_w_no hs, hm_w_no hs]
    | some s => rw [hm_w_get hs, hm_w_get hs, hm_up, hm_e_ne hi]
theorem hm_D {A : Nat → Prop} {cI cZ : ClassId} {ad : Nat → Nat} {M M' : hm_M} (h : va_D A (hm_w cI cZ ad M)) : va_D A (hm_w cI cZ ad M') := by
  have key : ∀ (k : Nat) (q : Nat × va_E), (hm_w cI cZ ad M')[k]? = some q → ∃ q0, (hm_w cI cZ ad M)[k]? = some q0 ∧ q0.1 = q.1 := by
    intro k q hq
    obtain ⟨s, h1, rfl⟩ := hm_w_of hq
    exact ⟨_, hm_w_get h1, rfl⟩
  refine ⟨fun i j x y hi hj hxy => ?_, fun k q hk => ?_⟩
  · obtain ⟨x0, h1, h2⟩ := key i x hi
    obtain ⟨y0, h3, h4⟩ := key j y hj
    exact h.1 i j x0 y0 h1 h3 (h2.trans (hxy.trans h4.symm))
  · obtain ⟨q0, h1, h2⟩ := key k q hk
    rw [← h2]
    exact h.2 k q0 h1
/-- the addresses of the cells -/
def hm_A (ad : Nat → Nat) : Nat → Prop := fun q => ∃ k s, hm_sh[k]? = some s ∧ q = ad k
theorem hm_A_in {A : Nat → Prop} {cI cZ : ClassId} {ad : Nat → Nat} {M : hm_M} (h : va_D A (hm_w cI cZ ad M)) : ∀ q, hm_A ad q → A q := by
  rintro q ⟨k, s, h1, rfl⟩
  exact h.2 k _ (hm_w_get h1)
theorem hm_DA {A : Nat → Prop} {cI cZ : ClassId} {ad : Nat → Nat} {M : hm_M} (h : va_D A (hm_w cI cZ ad M)) : va_D (hm_A ad) (hm_w cI cZ ad M) := by
  refine ⟨h.1, fun k q hq => ?_⟩
  obtain ⟨s, h1, rfl⟩ := hm_w_of hq
  exact ⟨k, s, h1, rfl⟩
/-- what nobody writes: the tables, the script -/
def hm_Ro (ad : Nat → Nat) (A : Nat → Prop) (L : Nat) (xs : Nat → Int32) (U : State) (H : Heap) : Prop :=
  (∀ (i : Nat) (C n : String) (l : List Int32), hm_ros[i]? = some (C, n, l) → va_Z C n "[I" (.ref (ad (1000 + i))) A U H ∧ va_T .int (ad (1000 + i)) l.length (fun j => .int (l.getD j 0)) A U H) ∧ va_X (ad 1005) L xs U H ∧ ad 1005 < H.size ∧ ¬ A (ad 1005)
theorem hm_Ro.go {ad : Nat → Nat} {A B : Nat → Prop} {L : Nat} {xs : Nat → Int32} {s U : State} {H : Heap} {locs : List Loc} (h : hm_Ro ad A L xs s s.heap) (hS : va_S A s.heap H locs) (hvm : s.vm.Alike U.vm) (hB : ∀ q, B q → A q) : hm_Ro ad B L xs U H := by
  obtain ⟨h1, h2, h3, h4⟩ := h
  refine ⟨fun i C n l hi => ?_, ?_, Nat.lt_of_lt_of_le h3 hS.1, fun z => h4 (hB _ z)⟩
  · obtain ⟨a, b⟩ := h1 i C n l hi
    exact ⟨(va_Z.moved hvm (a.kept hS.2.1)).narrow hB, (va_T.moved hvm (b.kept hS.2.1)).narrow hB⟩
  · exact va_X.moved hvm (h2.kept (hS.2.1 _ h3 h4))
/-- the links to private fields of nest mates -/
def hm_N (U : State) : Prop := ∀ (a : String) (i : Nat) (b n d h : String), Cond.fieldLinkNest a i b n d h ∈ lw_tbl → va_Nw (.fieldLinkNest a i b n d h) U
def hm_scr (M : hm_M) (L : Nat) (xs : Nat → Int32) : Prop := M 1005 = xs ∧ M 1006 0 = nI L
theorem hm_scr_row {M : hm_M} {L : Nat} {xs : Nat → Int32} {k : Nat} {f : Nat → Int32} {s : hm_S} (h : hm_scr M L xs) (hk : hm_sh[k]? = some s) : hm_scr (hm_row M k f) L xs := by
  have hl : k < 43 := (List.getElem?_eq_some_iff.mp hk).1
  have e1 : hm_row M k f 1005 = M 1005 := by simp only [hm_row]; rw [if_neg (by omega)]
  have e2 : hm_row M k f 1006 = M 1006 := by simp only [hm_row]; rw [if_neg (by omega)]
  exact ⟨by rw [e1]; exact h.1, by rw [e2]; exact h.2⟩
def hm_lv (ad : Nat → Nat) (ls : hm_L) : List (Nat × Value) := ls.zipIdx.filterMap (fun q => q.1.map (fun v => (q.2, hm_dv ad v)))
theorem hm_lv_mem {ad : Nat → Nat} {ls : hm_L} {q : Nat × Value} : q ∈ hm_lv ad ls ↔ ∃ v, ls[q.1]? = some (some v) ∧ q.2 = hm_dv ad v := by
  simp only [hm_lv, List.mem_filterMap, List.mem_zipIdx_iff_getElem?]
  constructor
  · rintro ⟨⟨o, i⟩, h1, h2⟩
    cases o with
    | none => cases h2
    | some v => cases h2; exact ⟨v, h1, rfl⟩
  · rintro ⟨v, h1, h2⟩
    exact ⟨(some v, q.1), h1, by obtain ⟨a, b⟩ := q; simp at h2; simp [h2]⟩
def hm_LR (ad : Nat → Nat) (lc : Array Slot) (nL : Nat) (ls : hm_L) : Prop := ls.length = nL ∧ lv_has lc nL (hm_lv ad ls)
theorem hm_LR.get {ad : Nat → Nat} {lc : Array Slot} {nL : Nat} {ls : hm_L} (h : hm_LR ad lc nL ls) {i : Nat} {v : hm_V} (hi : ls[i]? = some (some v)) : lc[i]? = some (.val (hm_dv ad v)) := h.2.2.2 (i, hm_dv ad v) (hm_lv_mem.mpr ⟨v, hi, rfl⟩)
theorem hm_free_ok {ad : Nat → Nat} {ls : hm_L} {i : Nat} (h : hm_free ls i = true) {j : Nat} {v : hm_V} (hj : ls[j]? = some (some v)) (hji : j + 1 = i) : (hm_dv ad v).category ≠ 2 := by
  subst hji
  simp only [hm_free, hj] at h
  rcases v with x | x | x
  · simp [hm_dv, Value.category]
  · simp at h
  · simp [hm_dv, Value.category]
theorem hm_LR_set1 {ad : Nat → Nat} {lc : Array Slot} {nL : Nat} {ls : hm_L} {i : Nat} {v : hm_V} (hf : hm_free ls i = true) (hl : ls.length = nL) (h : lv_has lc nL ((i, hm_dv ad v) :: (hm_lv ad ls).filter (fun q => !(q.1 == i) && !(q.1 + 1 == i && q.2.category == 2)))) : hm_LR ad lc nL (ls.set i (some v)) := by
  refine ⟨by simpa using hl, h.1, h.2.1, fun q hq => h.2.2 q ?_⟩
  obtain ⟨w, h1, h2⟩ := hm_lv_mem.mp hq
  by_cases hqi : q.1 = i
  · have hil : i < ls.length := by
      have := (List.getElem?_eq_some_iff.mp h1).1
      simpa [hqi] using this
    rw [hqi, List.getElem?_set_self hil] at h1
    cases h1
    rw [show q = (i, hm_dv ad v) from Prod.ext hqi h2]
    exact List.mem_cons_self
  · rw [List.getElem?_set_ne (Ne.symm hqi)] at h1
    refine List.mem_cons_of_mem _ (List.mem_filter.mpr ⟨hm_lv_mem.mpr ⟨w, h1, h2⟩, ?_⟩)
    have h3 : ¬ (q.1 + 1 = i ∧ q.2.category = 2) := fun z => hm_free_ok (ad := ad) hf h1 z.1 (by rw [← h2]; exact z.2)
    simp only [Bool.and_eq_true, Bool.not_eq_true', beq_eq_false_iff_ne, ne_eq, Bool.and_eq_false_imp, beq_iff_eq]
    exact ⟨hqi, fun z1 => by
      have h4 : ¬ q.2.category = 2 := fun z2 => h3 ⟨z1, z2⟩
      simpa using h4⟩
theorem hm_LR_set2 {ad : Nat → Nat} {lc : Array Slot} {nL : Nat} {ls : hm_L} {i : Nat} {v : hm_V} (hf : hm_free ls i = true) (hl : ls.length = nL) (h : lv_has lc nL ((i, hm_dv ad v) :: (hm_lv ad ls).filter (fun q => !(q.1 == i) && (!(q.1 == i + 1) && !(q.1 + 1 == i && q.2.category == 2))))) : hm_LR ad lc nL ((ls.set i (some v)).set (i + 1) none) := by
  refine ⟨by simpa using hl, h.1, h.2.1, fun q hq => h.2.2 q ?_⟩
  obtain ⟨w, h1, h2⟩ := hm_lv_mem.mp hq
  have hq1 : q.1 ≠ i + 1 := by
    intro z
    rw [z] at h1
    by_cases hz : i + 1 < (ls.set i (some v)).length
    · rw [List.getElem?_set_self hz] at h1; cases h1
    · rw [List.getElem?_eq_none (by simp at hz ⊢; omega)] at h1; cases h1
  rw [List.getElem?_set_ne (Ne.symm hq1)] at h1
  by_cases hqi : q.1 = i
  · have hil : i < ls.length := by
      have := (List.getElem?_eq_some_iff.mp h1).1
      simpa [hqi] using this
    rw [hqi, List.getElem?_set_self hil] at h1
    cases h1
    rw [show q = (i, hm_dv ad v) from Prod.ext hqi h2]
    exact List.mem_cons_self
  · rw [List.getElem?_set_ne (Ne.symm hqi)] at h1
    refine List.mem_cons_of_mem _ (List.mem_filter.mpr ⟨hm_lv_mem.mpr ⟨w, h1, h2⟩, ?_⟩)
    have h3 : ¬ (q.1 + 1 = i ∧ q.2.category = 2) := fun z => hm_free_ok (ad := ad) hf h1 z.1 (by rw [← h2]; exact z.2)
    simp only [Bool.and_eq_true, Bool.not_eq_true', beq_eq_false_iff_ne, ne_eq, Bool.and_eq_false_imp, beq_iff_eq]
    exact ⟨hqi, hq1, fun z1 => by
      have h4 : ¬ q.2.category = 2 := fun z2 => h3 ⟨z1, z2⟩
      simpa using h4⟩
theorem hm_ent_ok {ad : Nat → Nat} {n : Nat} {vs : List hm_V} (h : (hm_ent n vs).length = n) : hm_LR ad ((lg_sl (vs.map (hm_dv ad)) ++ List.replicate (n - (lg_sl (vs.map (hm_dv ad))).length) Slot.unset).toArray) n (hm_ent n vs) := by
  have e1 : ∀ vs : List hm_V, (lg_sl (vs.map (hm_dv ad))).length = (vs.flatMap hm_sl).length := by
    intro vs
    induction vs with
    | nil => rfl
    | cons v vs ih =>
      rcases v with x | x | x
      all_goals simp [lg_sl, hm_dv, Value.category, hm_sl] at ih ⊢
      all_goals omega
  have hl : (lg_sl (vs.map (hm_dv ad))).length ≤ n := by
    rw [e1]
    simp only [hm_ent, List.length_append, List.length_replicate] at h
    omega
  obtain ⟨a, b, c⟩ := lv_entry (vs.map (hm_dv ad)) hl
  refine ⟨h, a, b, fun q hq => c q ?_⟩
  obtain ⟨v, h1, h2⟩ := hm_lv_mem.mp hq
  have key : ∀ (vs : List hm_V) (i j : Nat) (v : hm_V), (vs.flatMap hm_sl)[j]? = some (some v) → (i + j, hm_dv ad v) ∈ lv_args i (vs.map (hm_dv ad)) := by
    intro vs
    induction vs with
    | nil => intro i j v h; simp at h
    | cons w vs ih =>
      intro i j v h
      rcases w with x | x | x
      · rw [List.flatMap_cons] at h
        cases j with
        | zero => simp [hm_sl] at h; subst h; simp [lv_args]
        | succ j =>
          simp only [hm_sl, List.singleton_append, List.getElem?_cons_succ] at h
          have := ih (i + 1) j v h
          simp only [List.map_cons, lv_args]
          refine List.mem_cons_of_mem _ ?_
          simp [hm_dv, Value.category]
          rw [show i + (j + 1) = i + 1 + j by omega]
          exact this
      · rw [List.flatMap_cons] at h
        cases j with
        | zero => simp [hm_sl] at h; subst h; simp [lv_args]
        | succ j =>
          cases j with
          | zero => simp [hm_sl] at h
          | succ j =>
            simp only [hm_sl, List.cons_append, List.nil_append, List.getElem?_cons_succ] at h
            have := ih (i + 2) j v h
            simp only [List.map_cons, lv_args]
            refine List.mem_cons_of_mem _ ?_
            simp [hm_dv, Value.category]
            rw [show i + (j + 1 + 1) = i + 2 + j by omega]
            exact this
      · rw [List.flatMap_cons] at h
        cases j with
        | zero => simp [hm_sl] at h; subst h; simp [lv_args]
        | succ j =>
          simp only [hm_sl, List.singleton_append, List.getElem?_cons_succ] at h
          have := ih (i + 1) j v h
          simp only [List.map_cons, lv_args]
          refine List.mem_cons_of_mem _ ?_
          simp [hm_dv, Value.category]
          rw [show i + (j + 1) = i + 1 + j by omega]
          exact this
  have h3 := key vs 0 q.1 v (by
    rw [hm_ent] at h1
    rw [List.getElem?_append] at h1
    split at h1
    · exact h1
    · have := List.mem_of_getElem? h1
      rw [List.mem_replicate] at this
      simp at this)
  rw [Nat.zero_add, ← h2] at h3
  exact h3
end
section
def hm_Ctx (D : va_G) (cI cZ : ClassId) (ad : Nat → Nat) (A : Nat → Prop) (L : Nat) (xs : Nat → Int32) (t : hm_X) (d cells slots : Nat) (p : Program) (R : Room) (s : State) (m : MethodId) (args : Array Value) (c : Code) : Prop :=
  p.tables.exec = Jvm.exec ∧ c.code = t.2.1 ∧ c.maxLocals = t.2.2.1 ∧ s.vm.findClass t.1.cls = some m.cls ∧ (∀ w ∈ hm_tbl, w.before args s = true) ∧ va_K D vwCl [(cI, .int), (cZ, .boolean)] s ∧ hm_Ro ad A L xs s s.heap ∧ hm_N s ∧ d ≤ R.frames ∧ 64 * d ≤ R.locals ∧ cells ≤ R.cells ∧ slots ≤ R.slots ∧ L < 2 ^ 31
theorem hm_u0 : ∀ w ∈ u_ws RX0 TX0 3, w ∈ hm_tbl := by decide +kernel
theorem hm_u1 : ∀ w ∈ u_ws RX1 TX1 3, w ∈ hm_tbl := by decide +kernel
theorem hm_u2 : ∀ w ∈ u_ws RX2 TX2 3, w ∈ hm_tbl := by decide +kernel
theorem hm_u3 : ∀ w ∈ u_ws RX3 TX3 11, w ∈ hm_tbl := by decide +kernel
theorem hm_u4 : ∀ w ∈ u_ws RX4 TX4 2, w ∈ hm_tbl := by decide +kernel
theorem hm_u5 : ∀ w ∈ u_ws RX5 TX5 3, w ∈ hm_tbl := by decide +kernel
theorem hm_u6 : ∀ w ∈ u_ws RX6 TX6 7, w ∈ hm_tbl := by decide +kernel
theorem hm_u7 : ∀ w ∈ u_ws RX7 TX7 9, w ∈ hm_tbl := by decide +kernel
theorem hm_u8 : ∀ w ∈ u_ws RX8 TX8 22, w ∈ hm_tbl := by decide +kernel
theorem hm_cls {ci : Nat} {q : vw_C} (h : vwCl[ci]? = some q) : (∀ w ∈ u_ws q.1 q.2.1 q.2.2, w ∈ hm_tbl) ∧ ∃ ty0 : Nat → FieldType, (∀ k, k < q.2.2 → parseFieldDescriptor (q.2.1 k).2.2.1 = some (ty0 k)) ∧ ∀ a, a < q.2.2 → ∀ b, b < q.2.2 → a ≠ b → (q.2.1 a).2.1 ≠ (q.2.1 b).2.1 := by
  match ci, h with
  | 0, h => cases h; exact ⟨hm_u0, tyX0, tyX0_ok, nmX0⟩
  | 1, h => cases h; exact ⟨hm_u1, tyX1, tyX1_ok, nmX1⟩
  | 2, h => cases h; exact ⟨hm_u2, tyX2, tyX2_ok, nmX2⟩
  | 3, h => cases h; exact ⟨hm_u3, tyX3, tyX3_ok, nmX3⟩
  | 4, h => cases h; exact ⟨hm_u4, tyX4, tyX4_ok, nmX4⟩
  | 5, h => cases h; exact ⟨hm_u5, tyX5, tyX5_ok, nmX5⟩
  | 6, h => cases h; exact ⟨hm_u6, tyX6, tyX6_ok, nmX6⟩
  | 7, h => cases h; exact ⟨hm_u7, tyX7, tyX7_ok, nmX7⟩
  | 8, h => cases h; exact ⟨hm_u8, tyX8, tyX8_ok, nmX8⟩
  | n + 9, h => simp at h
theorem hm_shp0 : hm_sh.all (fun s => match s with
  | .inl _ => true
  | .inr (c, fl) => match vwCl[c]? with
    | some q => fl.length == q.2.2
    | none => false) = true := by decide +kernel
theorem hm_shp {k ci : Nat} {fl : List (Option Nat)} (h : hm_sh[k]? = some (.inr (ci, fl))) : ∃ q, vwCl[ci]? = some q ∧ fl.length = q.2.2 := by
  have h1 := List.all_eq_true.mp hm_shp0 _ (List.mem_of_getElem? h)
  dsimp only at h1
  cases hq : vwCl[ci]? with
  | none => rw [hq] at h1; cases h1
  | some q => rw [hq] at h1; exact ⟨q, rfl, by simpa using h1⟩
theorem hm_fld_of {k j : Nat} {ci : Int} {o : Option Nat} (h : hm_fld k ci j = some o) : ∃ c fl, hm_sh[k]? = some (.inr (c, fl)) ∧ (c : Int) = ci ∧ fl[j]? = some o := by
  unfold hm_fld at h
  split at h
  · rename_i c fl hk
    by_cases hc : (c : Int) = ci
    · rw [if_pos hc] at h; exact ⟨c, fl, hk, hc, h⟩
    · rw [if_neg hc] at h; cases h
  · cases h
theorem hm_fit_int (x : Int32) : fits .int (.int x) = true := rfl
section HMS
variable {p : Program} {l : Launch} {e : Env} {R : Room} {s : State} {m : MethodId} {args : Array Value} {below : List Frame} {meth : Method} {c : Code} {H : Heap} {locs : List Loc} {cells slots : Nat} {Q : State → Prop}
variable {D : va_G} {cI cZ : ClassId} {ad : Nat → Nat} {A : Nat → Prop} {L : Nat} {xs : Nat → Int32} {t : hm_X} {d pc nx : Nat} {lc : Array Slot} {ls ls' : hm_L} {st st' : List hm_V} {M M1 : hm_M} {ins : Instr} {a : Int} {b pc' op lk : Nat} {ll : List (Int × Nat)} {rest : List Value}
theorem hm_w0 {v : Int32} (C0 : hm_Ctx D cI cZ ad A L xs t d cells slots p R s m args c) (hdec : decode t.2.1 pc = .ok (ins, nx - pc)) (hlk : hm_k0 t.1.cls pc nx ins v lk = true) (k : W p l e R s m args below meth c H locs cells slots Q (F0 m nx lc (.int v :: rest))) : W p l e R s m args below meth c H locs cells slots Q (F0 m pc lc rest) := by
  obtain ⟨hx, hb, hml, hown, hts, -⟩ := C0
  unfold hm_k0 at hlk
  split at hlk
  · simp only [Bool.and_eq_true, decide_eq_true_eq] at hlk
    obtain ⟨h1, rfl⟩ := hlk
    rw [Nat.add_sub_cancel_left] at hdec
    exact lv_iconst hx hb hdec h1 k
  · simp only [Bool.and_eq_true, decide_eq_true_eq] at hlk
    obtain ⟨h1, rfl⟩ := hlk
    rw [Nat.add_sub_cancel_left] at hdec
    exact lv_bipush hx hb hdec h1 k
  · simp only [Bool.and_eq_true, decide_eq_true_eq] at hlk
    obtain ⟨h1, rfl⟩ := hlk
    rw [Nat.add_sub_cancel_left] at hdec
    exact lv_sipush hx hb hdec h1 k
  · simp only [Bool.and_eq_true, decide_eq_true_eq] at hlk
    obtain ⟨h1, rfl⟩ := hlk
    rw [Nat.add_sub_cancel_left] at hdec
    exact lv_ldc hx hb hown (hts _ (hm_in h1 rfl)) hdec k
  · simp only [Bool.and_eq_true, decide_eq_true_eq] at hlk
    obtain ⟨h1, rfl⟩ := hlk
    rw [Nat.add_sub_cancel_left] at hdec
    exact lv_ldcw hx hb hown (hts _ (hm_in h1 rfl)) hdec k
  · cases hlk
theorem hm_w1 {v : hm_V} (C0 : hm_Ctx D cI cZ ad A L xs t d cells slots p R s m args c) (hdec : decode t.2.1 pc = .ok (ins, nx - pc)) (hlk : hm_k1 pc nx ins a b = true) (hk : hm_kind a v = true) (hl : lc[b]? = some (.val (hm_dv ad v))) (k : W p l e R s m args below meth c H locs cells slots Q (F0 m nx lc (hm_dv ad v :: rest))) : W p l e R s m args below meth c H locs cells slots Q (F0 m pc lc rest) := by
  obtain ⟨hx, hb, hml, hown, hts, -⟩ := C0
  unfold hm_k1 at hlk
  split at hlk <;> first | cases hlk | skip
  all_goals
    simp only [Bool.and_eq_true, decide_eq_true_eq] at hlk
    obtain ⟨⟨h1, rfl⟩, rfl⟩ := hlk
    rw [Nat.add_sub_cancel_left] at hdec
    rcases v with x | x | x <;> first | (exfalso; simp [hm_kind] at hk; done) | skip
  · subst h1; exact lv_iload hx hb hdec hl k
  · exact lv_iload_n hx hb hdec h1 hl k
  · subst h1; exact lv_aload hx hb hdec hl k
  · exact lv_aload_n hx hb hdec h1 hl k
  · subst h1; exact lv_lload hx hb hdec hl k
  · exact lv_lload_n hx hb hdec h1 hl k
theorem hm_put_of {v : hm_V} (h : hm_put a b v ls = some ls') : b < ls.length ∧ hm_free ls b = true ∧ ((a = 0 ∧ ∃ x, v = .inl x ∧ ls' = ls.set b (some v)) ∨ (a = 1 ∧ ∃ x, v = .inr (.inr x) ∧ ls' = ls.set b (some v)) ∨ (a = 2 ∧ b + 1 < ls.length ∧ ∃ x, v = .inr (.inl x) ∧ ls' = (ls.set b (some v)).set (b + 1) none)) := by
  unfold hm_put at h
  by_cases h1 : b < ls.length
  · rw [if_pos h1] at h
    by_cases h2 : hm_free ls b = true
    · rw [if_pos h2] at h
      refine ⟨h1, h2, ?_⟩
      split at h
      · cases h; exact Or.inl ⟨rfl, _, rfl, rfl⟩
      · cases h; exact Or.inr (Or.inl ⟨rfl, _, rfl, rfl⟩)
      · by_cases h3 : b + 1 < ls.length
        · rw [if_pos h3] at h; cases h; exact Or.inr (Or.inr ⟨rfl, h3, _, rfl, rfl⟩)
        · rw [if_neg h3] at h; cases h
      · cases h
    · rw [if_neg h2] at h; cases h
  · rw [if_neg h1] at h; cases h
theorem hm_w2 {v : hm_V} (C0 : hm_Ctx D cI cZ ad A L xs t d cells slots p R s m args c) (hdec : decode t.2.1 pc = .ok (ins, nx - pc)) (hlk : hm_k2 pc nx ins a b = true) (hL : hm_LR ad lc t.2.2.1 ls) (hput : hm_put a b v ls = some ls') (k : ∀ lc1, hm_LR ad lc1 t.2.2.1 ls' → W p l e R s m args below meth c H locs cells slots Q (F0 m nx lc1 rest)) : W p l e R s m args below meth c H locs cells slots Q (F0 m pc lc (hm_dv ad v :: rest)) := by
  obtain ⟨hx, hb, hml, hown, hts, -⟩ := C0
  obtain ⟨hbl, hfr, hc⟩ := hm_put_of hput
  have hbn : b < t.2.2.1 := by rw [← hL.1]; exact hbl
  unfold hm_k2 at hlk
  split at hlk <;> first | cases hlk | skip
  all_goals
    simp only [Bool.and_eq_true, decide_eq_true_eq] at hlk
    obtain ⟨⟨h1, rfl⟩, rfl⟩ := hlk
    rw [Nat.add_sub_cancel_left] at hdec
    rcases hc with ⟨h2, x, rfl, rfl⟩ | ⟨h2, x, rfl, rfl⟩ | ⟨h2, h3, x, rfl, rfl⟩ <;> first | (exfalso; revert h2; decide) | skip
  · subst h1; exact lv_istore hx hb hdec hL.2 hbn rfl (fun l2 h2 => k l2 (hm_LR_set1 hfr hL.1 h2))
  · exact lv_istore_n hx hb hdec h1 hL.2 hbn rfl (fun l2 h2 => k l2 (hm_LR_set1 hfr hL.1 h2))
  · subst h1; exact lv_astore hx hb hdec hL.2 hbn rfl (fun l2 h2 => k l2 (hm_LR_set1 (v := .inr (.inr x)) hfr hL.1 h2))
  · exact lv_astore_n hx hb hdec h1 hL.2 hbn rfl (fun l2 h2 => k l2 (hm_LR_set1 (v := .inr (.inr x)) hfr hL.1 h2))
  · subst h1; exact lv_lstore hx hb hdec hL.2 (by rw [← hL.1]; exact h3) rfl (fun l2 h2 => k l2 (hm_LR_set2 (v := .inr (.inl x)) hfr hL.1 h2))
  · exact lv_lstore_n hx hb hdec h1 hL.2 (by rw [← hL.1]; exact h3) rfl (fun l2 h2 => k l2 (hm_LR_set2 (v := .inr (.inl x)) hfr hL.1 h2))
theorem hm_w3 {x : Int32} (C0 : hm_Ctx D cI cZ ad A L xs t d cells slots p R s m args c) (hdec : decode t.2.1 pc = .ok (.iinc b a, 3)) (hL : hm_LR ad lc t.2.2.1 ls) (hg : ls[b]? = some (some (.inl x))) (hput : hm_put 0 b (.inl (x + Int32.ofInt a)) ls = some ls') (k : ∀ lc1, hm_LR ad lc1 t.2.2.1 ls' → W p l e R s m args below meth c H locs cells slots Q (F0 m (pc + 3) lc1 rest)) : W p l e R s m args below meth c H locs cells slots Q (F0 m pc lc rest) := by
  obtain ⟨hx, hb, hml, hown, hts, -⟩ := C0
  obtain ⟨hbl, hfr, hc⟩ := hm_put_of hput
  have hbn : b < t.2.2.1 := by rw [← hL.1]; exact hbl
  rcases hc with ⟨h2, y, h3, rfl⟩ | ⟨h2, y, h3, h4⟩ | ⟨h2, h5, y, h3, h4⟩
  · obtain ⟨i, hi⟩ := List.getElem?_of_mem (hm_lv_mem.mpr ⟨_, hg, rfl⟩ : ((b, hm_dv ad (.inl x)) : Nat × Value) ∈ hm_lv ad ls)
    exact lv_iinc (k := i) hx hb hdec hL.2 hi rfl hbn rfl (fun l2 h2 => k l2 (hm_LR_set1 (v := .inl (x + Int32.ofInt a)) hfr hL.1 h2))
  · cases h3
  · cases h3
theorem hm_w4 {x y : Int32} (C0 : hm_Ctx D cI cZ ad A L xs t d cells slots p R s m args c) (hdec : decode t.2.1 pc = .ok (hm_bI b, 1)) (hb8 : b ≤ 8) (k : W p l e R s m args below meth c H locs cells slots Q (F0 m (pc + 1) lc (.int (hm_bin b x y) :: rest))) : W p l e R s m args below meth c H locs cells slots Q (F0 m pc lc (.int y :: .int x :: rest)) := by
  obtain ⟨hx, hb, hml, hown, hts, -⟩ := C0
  match b, hdec, k, hb8 with
  | 0, hdec, k, _ => exact lv_iadd hx hb hdec k
  | 1, hdec, k, _ => exact lv_isub hx hb hdec k
  | 2, hdec, k, _ => exact lv_imul hx hb hdec k
  | 3, hdec, k, _ => exact lv_iand hx hb hdec k
  | 4, hdec, k, _ => exact lv_ior hx hb hdec k
  | 5, hdec, k, _ => exact lv_ixor hx hb hdec k
  | 6, hdec, k, _ => exact lv_ishl hx hb hdec k
  | 7, hdec, k, _ => exact lv_ishr hx hb hdec k
  | 8, hdec, k, _ => exact lv_iushr hx hb hdec rfl k
  | n + 9, _, _, h => exact absurd h (by omega)
theorem hm_w7 {x : Int32} (C0 : hm_Ctx D cI cZ ad A L xs t d cells slots p R s m args c) (hdec : decode t.2.1 pc = .ok (hm_uI b, 1)) (hb8 : b ≤ 2) (k : W p l e R s m args below meth c H locs cells slots Q (F0 m (pc + 1) lc (.int (hm_un b x) :: rest))) : W p l e R s m args below meth c H locs cells slots Q (F0 m pc lc (.int x :: rest)) := by
  obtain ⟨hx, hb, hml, hown, hts, -⟩ := C0
  match b, hdec, k, hb8 with
  | 0, hdec, k, _ => exact lv_ineg hx hb hdec k
  | 1, hdec, k, _ => exact lv_i2b hx hb hdec rfl k
  | 2, hdec, k, _ => exact lv_i2s hx hb hdec rfl k
  | n + 3, _, _, h => exact absurd h (by omega)
theorem hm_w10 (C0 : hm_Ctx D cI cZ ad A L xs t d cells slots p R s m args c) (hdec : decode t.2.1 pc = .ok (ins, nx - pc)) (hlk : hm_k10 t.1.cls pc nx ins b lk = true) (k : W p l e R s m args below meth c H locs cells slots Q (F0 m nx lc (.long (lN b) :: rest))) : W p l e R s m args below meth c H locs cells slots Q (F0 m pc lc rest) := by
  obtain ⟨hx, hb, hml, hown, hts, -⟩ := C0
  unfold hm_k10 at hlk
  split at hlk
  · simp only [Bool.and_eq_true, decide_eq_true_eq] at hlk
    obtain ⟨h1, rfl⟩ := hlk
    rw [Nat.add_sub_cancel_left] at hdec
    exact lv_lconst hx hb hdec h1 k
  · simp only [Bool.and_eq_true, decide_eq_true_eq] at hlk
    obtain ⟨h1, rfl⟩ := hlk
    rw [Nat.add_sub_cancel_left] at hdec
    exact lv_ldc2 hx hb hown (hts _ (hm_in h1 rfl)) hdec k
  · cases hlk
theorem hm_w14 {x : Int32} {tg : Nat} (C0 : hm_Ctx D cI cZ ad A L xs t d cells slots p R s m args c) (hdec : decode t.2.1 pc = .ok (.ifCond (hm_cI b) ((tg : Int) - (pc : Int)), 3)) (hb5 : b ≤ 5) (k : W p l e R s m args below meth c H locs cells slots Q (F0 m (if hm_cmp b x 0 = true then tg else pc + 3) lc rest)) : W p l e R s m args below meth c H locs cells slots Q (F0 m pc lc (.int x :: rest)) := by
  obtain ⟨hx, hb, hml, hown, hts, -⟩ := C0
  have ht : (pc : Int) + ((tg : Int) - (pc : Int)) = (tg : Int) := by omega
  match b, hdec, k, hb5 with
  | 0, hdec, k, _ => exact lv_if_eq hx hb hdec ht (fun h => by rw [if_pos (by simp [hm_cmp, h])] at k; exact k) (fun h => by rw [if_neg (by simp [hm_cmp, h])] at k; exact k)
  | 1, hdec, k, _ => exact lv_if_ne hx hb hdec ht (fun h => by rw [if_pos (by simp [hm_cmp, h])] at k; exact k) (fun h => by rw [if_neg (by simpa [hm_cmp] using h)] at k; exact k)
  | 2, hdec, k, _ => exact lv_if_lt hx hb hdec ht (fun h => by rw [if_pos (by simp [hm_cmp, h])] at k; exact k) (fun h => by rw [if_neg (by simpa [hm_cmp] using h)] at k; exact k)
  | 3, hdec, k, _ => exact lv_if_ge hx hb hdec ht (fun h => by rw [if_pos (by simp [hm_cmp, h])] at k; exact k) (fun h => by rw [if_neg (by simpa [hm_cmp] using h)] at k; exact k)
  | 4, hdec, k, _ => exact lv_if_gt hx hb hdec ht (fun h => by rw [if_pos (by simp [hm_cmp, h])] at k; exact k) (fun h => by rw [if_neg (by simpa [hm_cmp] using h)] at k; exact k)
  | 5, hdec, k, _ => exact lv_if_le hx hb hdec ht (fun h => by rw [if_pos (by simp [hm_cmp, h])] at k; exact k) (fun h => by rw [if_neg (by simpa [hm_cmp] using h)] at k; exact k)
  | n + 6, _, _, h => exact absurd h (by omega)
theorem hm_w15 {x y : Int32} {tg : Nat} (C0 : hm_Ctx D cI cZ ad A L xs t d cells slots p R s m args c) (hdec : decode t.2.1 pc = .ok (.if_icmp (hm_cI b) ((tg : Int) - (pc : Int)), 3)) (hb5 : b ≤ 5) (k : W p l e R s m args below meth c H locs cells slots Q (F0 m (if hm_cmp b x y = true then tg else pc + 3) lc rest)) : W p l e R s m args below meth c H locs cells slots Q (F0 m pc lc (.int y :: .int x :: rest)) := by
  obtain ⟨hx, hb, hml, hown, hts, -⟩ := C0
  have ht : (pc : Int) + ((tg : Int) - (pc : Int)) = (tg : Int) := by omega
  match b, hdec, k, hb5 with
  | 0, hdec, k, _ => exact lv_icmp_eq hx hb hdec ht (fun h => by rw [if_pos (by simp [hm_cmp, h])] at k; exact k) (fun h => by rw [if_neg (by simpa [hm_cmp] using h)] at k; exact k)
  | 1, hdec, k, _ => exact lv_icmp_ne hx hb hdec ht (fun h => by rw [if_pos (by simp [hm_cmp, h])] at k; exact k) (fun h => by rw [if_neg (by simpa [hm_cmp] using h)] at k; exact k)
  | 2, hdec, k, _ => exact lv_icmp_lt hx hb hdec ht (fun h => by rw [if_pos (by simp [hm_cmp, h])] at k; exact k) (fun h => by rw [if_neg (by simpa [hm_cmp] using h)] at k; exact k)
  | 3, hdec, k, _ => exact lv_icmp_ge hx hb hdec ht (fun h => by rw [if_pos (by simp [hm_cmp, h])] at k; exact k) (fun h => by rw [if_neg (by simpa [hm_cmp] using h)] at k; exact k)
  | 4, hdec, k, _ => exact lv_icmp_gt hx hb hdec ht (fun h => by rw [if_pos (by simp [hm_cmp, h])] at k; exact k) (fun h => by rw [if_neg (by simpa [hm_cmp] using h)] at k; exact k)
  | 5, hdec, k, _ => exact lv_icmp_le hx hb hdec ht (fun h => by rw [if_pos (by simp [hm_cmp, h])] at k; exact k) (fun h => by rw [if_neg (by simpa [hm_cmp] using h)] at k; exact k)
  | n + 6, _, _, h => exact absurd h (by omega)
end HMS
end
section
theorem hm_cat2 (ad : Nat → Nat) (v : hm_V) : (hm_dv ad v).category ≤ 2 := by
  rcases v with x | x | x <;> simp [hm_dv, Value.category]
theorem hm_sum (ad : Nat → Nat) (r : List hm_V) : ((r.map (hm_dv ad)).map fun v => v.category).sum ≤ 2 * r.length := by
  induction r with
  | nil => simp
  | cons v r ih =>
    have := hm_cat2 ad v
    simp only [List.map_cons, List.sum_cons, List.length_cons]
    omega
theorem hm_cat1 {ad : Nat → Nat} {v : hm_V} (h : hm_short v = true) : (hm_dv ad v).category = 1 := by
  rcases v with x | x | x
  · rfl
  · simp [hm_short] at h
  · rfl
theorem hm_swL {pc tg : Nat} {df x : Int} (hd : (pc : Int) + df = (tg : Int)) : ∀ (ps : List (Int × Int)) (l : List (Int × Nat)), l.map (fun q => (q.1, (q.2 : Int))) = ps.map (fun q => (q.1, (pc : Int) + q.2)) → (pc : Int) + Op.lookupswitch.offset ps df x = (hm_swt l tg x : Int)
  | [], l, h => by
    cases l with
    | nil => rw [Op.lookupswitch.offset_nil]; exact hd
    | cons q l => simp at h
  | (k, o) :: ps, l, h => by
    cases l with
    | nil => simp at h
    | cons q l =>
      obtain ⟨k', t⟩ := q
      simp only [List.map_cons, List.cons.injEq, Prod.mk.injEq] at h
      obtain ⟨⟨h1, h2⟩, h3⟩ := h
      subst h1
      rw [Op.lookupswitch.offset_cons]
      simp only [hm_swt]
      by_cases hx : k' = x
      · rw [if_pos hx, if_pos hx.symm, h2]
      · rw [if_neg hx, if_neg (fun z => hx z.symm)]
        exact hm_swL hd ps l h3
theorem hm_swT {pc tg : Nat} {lo x : Int} : ∀ (os : List Int) (n : Nat) (l : List (Int × Nat)), l.map (fun q => (q.1, (q.2 : Int))) = (os.zipIdx n).map (fun q => (lo + (q.2 : Int), (pc : Int) + q.1)) →
    ((x < lo + (n : Int) ∨ lo + (n : Int) + (os.length : Int) ≤ x) → hm_swt l tg x = tg) ∧ ∀ (i : Nat) (off : Int), os[i]? = some off → x = lo + (n : Int) + (i : Int) → (hm_swt l tg x : Int) = (pc : Int) + off
  | [], n, l, h => by
    cases l with
    | nil => exact ⟨fun _ => rfl, fun i off hi => by simp at hi⟩
    | cons q l => simp at h
  | o :: os, n, l, h => by
    cases l with
    | nil => simp at h
    | cons q l =>
      obtain ⟨k', t⟩ := q
      simp only [List.map_cons, List.zipIdx_cons, List.cons.injEq, Prod.mk.injEq] at h
      obtain ⟨⟨h1, h2⟩, h3⟩ := h
      obtain ⟨i1, i2⟩ := hm_swT os (n + 1) l h3
      simp only [hm_swt]
      refine ⟨fun hx => ?_, fun i off hi hx => ?_⟩
      · rw [if_neg (by simp only [List.length_cons] at hx; omega)]
        refine i1 ?_
        simp only [List.length_cons] at hx
        omega
      · cases i with
        | zero =>
          simp only [List.getElem?_cons_zero, Option.some.injEq] at hi
          rw [if_pos (by omega), h2, hi]
        | succ i =>
          rw [if_neg (by omega)]
          exact i2 i off (by simpa using hi) (by omega)
theorem hm_wa1 : (Cond.native arraycopyName) ∈ hm_tbl := by decide +kernel
theorem hm_wa2 : (Cond.static arraycopyName) ∈ hm_tbl := by decide +kernel
theorem hm_wa3 : (Cond.initialized "java/lang/System") ∈ hm_tbl := by decide +kernel
theorem hm_wm1 : (Cond.static Lib.Math.max.name) ∈ hm_tbl := by decide +kernel
theorem hm_wm2 : (Cond.code Lib.Math.max.name Lib.Math.max.code 2 (some .int)) ∈ hm_tbl := by decide +kernel
theorem hm_wm3 : (Cond.static Lib.Math.min.name) ∈ hm_tbl := by decide +kernel
theorem hm_wm4 : (Cond.code Lib.Math.min.name Lib.Math.min.code 2 (some .int)) ∈ hm_tbl := by decide +kernel
theorem hm_wm5 : (Cond.initialized "java/lang/Math") ∈ hm_tbl := by decide +kernel
section HMS
variable {p : Program} {l : Launch} {e : Env} {R : Room} {s : State} {m : MethodId} {args : Array Value} {below : List Frame} {meth : Method} {c : Code} {H : Heap} {locs : List Loc} {cells slots : Nat} {Q : State → Prop}
variable {D : va_G} {cI cZ : ClassId} {ad : Nat → Nat} {A : Nat → Prop} {L : Nat} {xs : Nat → Int32} {t : hm_X} {d pc nx : Nat} {lc : Array Slot} {ls ls' : hm_L} {st st' : List hm_V} {M M1 : hm_M} {ins : Instr} {a : Int} {b pc' op lk : Nat} {ll : List (Int × Nat)} {rest : List Value}
theorem hm_w17 {x : Int32} (C0 : hm_Ctx D cI cZ ad A L xs t d cells slots p R s m args c) (hdec : decode t.2.1 pc = .ok (ins, nx - pc)) (hlk : hm_k17 pc ins a ll = true) (k : W p l e R s m args below meth c H locs cells slots Q (F0 m (hm_swt ll a.toNat x.toInt) lc rest)) : W p l e R s m args below meth c H locs cells slots Q (F0 m pc lc (.int x :: rest)) := by
  obtain ⟨hx, hb, hml, hown, hts, -⟩ := C0
  unfold hm_k17 at hlk
  split at hlk
  · simp only [Bool.and_eq_true, decide_eq_true_eq] at hlk
    obtain ⟨⟨h1, h2⟩, h3⟩ := hlk
    exact lv_lookup hx hb hdec h3 rfl (hm_swL h1 _ _ h2) k
  · rename_i df lo hi os
    simp only [Bool.and_eq_true, decide_eq_true_eq] at hlk
    obtain ⟨⟨h1, h2⟩, h3⟩ := hlk
    obtain ⟨i1, i2⟩ := hm_swT (pc := pc) (tg := a.toNat) (lo := lo) (x := x.toInt) os.toList 0 ll h2
    by_cases hc : x.toInt < lo ∨ hi < x.toInt
    · have e := i1 (by simp only [Array.length_toList]; omega)
      rw [e] at k
      exact lv_tableOut hx hb hdec hc h1 k
    · have hlt : (x.toInt - lo).toNat < os.size := by omega
      have ho : os[(x.toInt - lo).toNat]? = some os[(x.toInt - lo).toNat] := Array.getElem?_eq_getElem hlt
      have e := i2 (x.toInt - lo).toNat os[(x.toInt - lo).toNat] (by rw [Array.getElem?_toList]; exact ho) (by omega)
      exact lv_tableIn hx hb hdec (by omega) (by omega) ho e.symm k
  · cases hlk
theorem hm_w18 {k : Nat} {o : Option Nat} (C0 : hm_Ctx D cI cZ ad A L xs t d cells slots p R s m args c) (hdec : decode t.2.1 pc = .ok (ins, 3)) (hlk : hm_k18 t.1.cls ins a b lk = true) (hf : hm_fld k a b = some o) (hP : va_P D vwCl (hm_w cI cZ ad M) H) (kk : W p l e R s m args below meth c H locs cells slots Q (F0 m (pc + 3) lc (hm_fv ad M k b o :: rest))) : W p l e R s m args below meth c H locs cells slots Q (F0 m pc lc (.ref (ad k) :: rest)) := by
  obtain ⟨hx, hb, hml, hown, hts, hK, hR, hN, -⟩ := C0
  obtain ⟨c0, fl, h1, h2, h3⟩ := hm_fld_of hf
  unfold hm_k18 at hlk
  split at hlk
  · rename_i i
    have ha : a.toNat = c0 := by omega
    rw [ha] at hlk
    cases hq : vwCl[c0]? with
    | none => rw [hq] at hlk; cases hlk
    | some q =>
      rw [hq] at hlk
      simp only [hm_fl, Bool.and_eq_true, Bool.or_eq_true, decide_eq_true_eq] at hlk
      obtain ⟨-, hbn, hl⟩ := hlk
      obtain ⟨u1, ty0, u2, u3⟩ := hm_cls hq
      have hv : (fl.mapIdx (fun j f => hm_fv ad M k j f))[b]? = some (hm_fv ad M k b o) := by rw [List.getElem?_mapIdx, h3]; rfl
      rcases hl with hl | hl
      · exact va_get hx hb hts u1 hown hK hP k (hm_w_get h1) hq b hbn (hts _ (hm_in hl rfl)) (fun _ h9 => h9) hv hdec kk
      · exact va_getN hx hb hts u1 hown hK hP k (hm_w_get h1) hq b hbn ((hN _ _ _ _ _ _ (List.mem_of_getElem? hl)).use rfl) (fun _ h9 => h9) hv hdec kk
  · cases hlk
theorem hm_w19 {k : Nat} {x : Int32} (C0 : hm_Ctx D cI cZ ad A L xs t d cells slots p R s m args c) (hdec : decode t.2.1 pc = .ok (ins, 3)) (hlk : hm_k19 t.1.cls ins a b lk = true) (hf : hm_fld k a b = some none) (hP : va_P D vwCl (hm_w cI cZ ad M) H) (hD : va_D A (hm_w cI cZ ad M)) (hS : va_S A s.heap H locs) (kk : ∀ (H1 : Heap) (locs1 : List Loc), va_P D vwCl (hm_w cI cZ ad (hm_up M k b x)) H1 → va_S A s.heap H1 locs1 → W p l e R s m args below meth c H1 locs1 cells slots Q (F0 m (pc + 3) lc rest)) : W p l e R s m args below meth c H locs cells slots Q (F0 m pc lc (.int x :: .ref (ad k) :: rest)) := by
  obtain ⟨hx, hb, hml, hown, hts, hK, hR, hN, -⟩ := C0
  obtain ⟨c0, fl, h1, h2, h3⟩ := hm_fld_of hf
  unfold hm_k19 at hlk
  split at hlk
  · rename_i i
    have ha : a.toNat = c0 := by omega
    rw [ha] at hlk
    cases hq : vwCl[c0]? with
    | none => rw [hq] at hlk; cases hlk
    | some q =>
      rw [hq] at hlk
      simp only [hm_fl, Bool.and_eq_true, Bool.or_eq_true, decide_eq_true_eq] at hlk
      obtain ⟨⟨⟨-, hbn, hl⟩, hfin⟩, hI⟩ := hlk
      obtain ⟨u1, ty0, u2, u3⟩ := hm_cls hq
      have hd : parseFieldDescriptor (q.2.1 b).2.2.1 = some .int := by rw [hI]; decide +kernel
      have hbl : b < (fl.mapIdx (fun j f => hm_fv ad M k j f)).length := by
        have := (List.getElem?_eq_some_iff.mp h3).1
        simpa using this
      rcases hl with hl | hl
      · refine va_put hx hb hts u1 ty0 u2 u3 hown hK hP hD hS k (hm_w_get h1) hq b hbn (hts _ (hm_in hl rfl)) (fun _ h9 => h9) hfin hd (vp_nar_int x) rfl hbl hdec (fun H1 locs1 p1 p2 p3 => kk H1 locs1 ?_ p3)
        rw [← hm_w_fld h1 h3]; exact p1
      · refine va_putN hx hb hts u1 ty0 u2 u3 hown hK hP hD hS k (hm_w_get h1) hq b hbn ((hN _ _ _ _ _ _ (List.mem_of_getElem? hl)).use rfl) (fun _ h9 => h9) hfin hd (vp_nar_int x) rfl hbl hdec (fun H1 locs1 p1 p2 p3 => kk H1 locs1 ?_ p3)
        rw [← hm_w_fld h1 h3]; exact p1
  · cases hlk
theorem hm_w20 {k n : Nat} {i : Int32} {f : Nat → Int32} (C0 : hm_Ctx D cI cZ ad A L xs t d cells slots p R s m args c) (hdec : decode t.2.1 pc = .ok (if b = 1 then .baload else .iaload, 1)) (hf : hm_arr M (b == 1) k = some (n, f)) (hin : ¬ (i < 0 ∨ n ≤ i.toNatClampNeg)) (hP : va_P D vwCl (hm_w cI cZ ad M) H) (hS : va_S A s.heap H locs) (hsc : hm_scr M L xs) (kk : W p l e R s m args below meth c H locs cells slots Q (F0 m (pc + 1) lc (.int (f i.toNatClampNeg) :: rest))) : W p l e R s m args below meth c H locs cells slots Q (F0 m pc lc (.int i :: .ref (ad k) :: rest)) := by
  obtain ⟨hx, hb, hml, hown, hts, hK, hR, hN, -, -, -, -, hL⟩ := C0
  unfold hm_arr at hf
  split at hf
  · rename_i z n' hk
    by_cases hz : z = (b == 1)
    · rw [if_pos hz] at hf
      cases hf
      by_cases hb1 : b = 1
      · rw [if_pos hb1] at hdec
        have hz2 : z = true := by rw [hz, hb1]; rfl
        subst hz2
        exact va_zald hx hb hK hP k 1 (cA := cZ) (hm_w_get hk) rfl hin hdec kk
      · rw [if_neg hb1] at hdec
        have hz2 : z = false := by rw [hz]; simp [hb1]
        subst hz2
        exact va_iald hx hb hK hP k 0 (cA := cI) (hm_w_get hk) rfl hin hdec kk
    · rw [if_neg hz] at hf; cases hf
  · cases hf
  · rename_i hk
    by_cases hz : (b == 1) = true
    · rw [if_pos hz] at hf; cases hf
    · rw [if_neg hz] at hf
      have hb1 : ¬ b = 1 := by simpa using hz
      rw [if_neg hb1] at hdec
      by_cases h1 : k < 1000
      · rw [if_pos h1] at hf; cases hf
      · rw [if_neg h1] at hf
        by_cases h2 : k = 1005
        · rw [if_pos h2] at hf
          cases hf
          subst h2
          rw [hsc.2, nI_clamp hL] at hin
          rw [hsc.1] at kk
          exact va_sld hx hb hR.2.1 hR.2.2.1 hR.2.2.2 hS hin hdec kk
        · rw [if_neg h2] at hf
          split at hf
          · rename_i C nm l' hr
            cases hf
            have e : 1000 + (k - 1000) = k := by omega
            obtain ⟨-, hT⟩ := hR.1 (k - 1000) C nm l' hr
            rw [e] at hT
            exact va_ti hx hb hT hS hin rfl hdec kk
          · cases hf
theorem hm_w21 {k n : Nat} {i x : Int32} {z : Bool} (C0 : hm_Ctx D cI cZ ad A L xs t d cells slots p R s m args c) (hdec : decode t.2.1 pc = .ok (if b = 1 then .bastore else .iastore, 1)) (hk : hm_sh[k]? = some (.inl (z, n))) (hz : z = (b == 1)) (hx1 : ¬ ((b = 1 ∧ ¬ (x = 0 ∨ x = 1)) ∨ i < 0 ∨ n ≤ i.toNatClampNeg)) (hP : va_P D vwCl (hm_w cI cZ ad M) H) (hD : va_D A (hm_w cI cZ ad M)) (hS : va_S A s.heap H locs) (kk : ∀ (H1 : Heap) (locs1 : List Loc), va_P D vwCl (hm_w cI cZ ad (hm_up M k i.toNatClampNeg x)) H1 → va_S A s.heap H1 locs1 → W p l e R s m args below meth c H1 locs1 cells slots Q (F0 m (pc + 1) lc rest)) : W p l e R s m args below meth c H locs cells slots Q (F0 m pc lc (.int x :: .int i :: .ref (ad k) :: rest)) := by
  obtain ⟨hx, hb, hml, hown, hts, hK, hR, hN, -⟩ := C0
  have hin : vp_in i n := fun q => hx1 (Or.inr q)
  by_cases hb1 : b = 1
  · rw [if_pos hb1] at hdec
    have hz2 : z = true := by rw [hz, hb1]; rfl
    subst hz2
    have hx01 : x = 0 ∨ x = 1 := by
      rcases Classical.em (x = 0 ∨ x = 1) with h | h
      · exact h
      · exact absurd (Or.inl ⟨hb1, h⟩) hx1
    have hnar : vp_nar .boolean x = x := by rcases hx01 with rfl | rfl <;> rfl
    refine va_zast hx hb hK hP hD hS k 1 (cA := cZ) (hm_w_get hk) rfl hin hdec (fun H1 locs1 p1 p2 p3 => kk H1 locs1 ?_ p3)
    rw [hnar] at p1
    have e := hm_w_arr (cI := cI) (cZ := cZ) (ad := ad) (M := M) (f := upd (M k) i.toNatClampNeg x) hk
    rw [hm_up, ← e]
    exact p1
  · rw [if_neg hb1] at hdec
    have hz2 : z = false := by rw [hz]; simp [hb1]
    subst hz2
    refine va_iast hx hb hK hP hD hS k 0 (cA := cI) (hm_w_get hk) rfl hin hdec (fun H1 locs1 p1 p2 p3 => kk H1 locs1 ?_ p3)
    have e := hm_w_arr (cI := cI) (cZ := cZ) (ad := ad) (M := M) (f := upd (M k) i.toNatClampNeg x) hk
    rw [hm_up, ← e]
    exact p1
theorem hm_w22 {k n : Nat} {f : Nat → Int32} (C0 : hm_Ctx D cI cZ ad A L xs t d cells slots p R s m args c) (hdec : decode t.2.1 pc = .ok (.arraylength, 1)) (hf : hm_arr M false k = some (n, f)) (hP : va_P D vwCl (hm_w cI cZ ad M) H) (hS : va_S A s.heap H locs) (hsc : hm_scr M L xs) (kk : W p l e R s m args below meth c H locs cells slots Q (F0 m (pc + 1) lc (.int (nI n) :: rest))) : W p l e R s m args below meth c H locs cells slots Q (F0 m pc lc (.ref (ad k) :: rest)) := by
  obtain ⟨hx, hb, hml, hown, hts, hK, hR, hN, -, -, -, -, hL⟩ := C0
  unfold hm_arr at hf
  split at hf
  · rename_i z n' hk
    by_cases hz : z = false
    · rw [if_pos hz] at hf
      cases hf
      subst hz
      exact va_alen hx hb hK hP k 0 (cA := cI) (hm_w_get hk) (ty := .int) rfl rfl hdec kk
    · rw [if_neg hz] at hf; cases hf
  · cases hf
  · rename_i hk
    rw [if_neg (by decide)] at hf
    by_cases h1 : k < 1000
    · rw [if_pos h1] at hf; cases hf
    · rw [if_neg h1] at hf
      by_cases h2 : k = 1005
      · rw [if_pos h2] at hf
        cases hf
        subst h2
        rw [hsc.2, nI_clamp hL] at kk
        exact va_slen hx hb hR.2.1 hR.2.2.1 hR.2.2.2 hS hdec kk
      · rw [if_neg h2] at hf
        split at hf
        · rename_i C nm l' hr
          cases hf
          have e : 1000 + (k - 1000) = k := by omega
          obtain ⟨-, hT⟩ := hR.1 (k - 1000) C nm l' hr
          rw [e] at hT
          exact va_tlen hx hb hT hS rfl hdec kk
        · cases hf
theorem hm_w23 (C0 : hm_Ctx D cI cZ ad A L xs t d cells slots p R s m args c) (hdec : decode t.2.1 pc = .ok (ins, 3)) (hlk : hm_k23 t.1.cls ins b lk = true) (hS : va_S A s.heap H locs) (kk : W p l e R s m args below meth c H locs cells slots Q (F0 m (pc + 3) lc (.ref (ad (1000 + b)) :: rest))) : W p l e R s m args below meth c H locs cells slots Q (F0 m pc lc rest) := by
  obtain ⟨hx, hb, hml, hown, hts, hK, hR, hN, -⟩ := C0
  unfold hm_k23 at hlk
  split at hlk
  · cases hr : hm_ros[b]? with
    | none => rw [hr] at hlk; cases hlk
    | some q =>
      obtain ⟨C, n, l'⟩ := q
      rw [hr] at hlk
      simp only [decide_eq_true_eq] at hlk
      exact va_gets hx hb (hR.1 b C n l' hr).1 hS hown (hts _ (hm_in hlk rfl)) (fun _ h9 => h9) hdec kk
  · cases hlk
theorem hm_w28 {k0 k1 n0 n1 : Nat} {n dp sp : Int32} (C0 : hm_Ctx D cI cZ ad A L xs t d cells slots p R s m args c) (hdec : decode t.2.1 pc = .ok (ins, 3)) (hlk : hm_k28 t.1.cls ins arraycopyName lk = true) (hd : 0 < d) (hL : hm_LR ad lc t.2.2.1 ls) (h0 : hm_sh[k0]? = some (.inl (false, n0))) (h1 : hm_sh[k1]? = some (.inl (false, n1))) (hc : ¬ (sp < 0 ∨ dp < 0 ∨ n < 0 ∨ n0 < sp.toNatClampNeg + n.toNatClampNeg ∨ n1 < dp.toNatClampNeg + n.toNatClampNeg)) (hP : va_P D vwCl (hm_w cI cZ ad M) H) (hD : va_D A (hm_w cI cZ ad M)) (hS : va_S A s.heap H locs)
    (kk : ∀ (H1 : Heap) (locs1 : List Loc), va_P D vwCl (hm_w cI cZ ad (hm_row M k1 (va_cpy (M k0) (M k1) sp.toNatClampNeg dp.toNatClampNeg n.toNatClampNeg))) H1 → va_S A s.heap H1 locs1 → W p l e R s m args below meth c H1 locs1 cells slots Q (F0 m (pc + 3) lc [])) : W p l e R s m args below meth c H locs cells slots Q (F0 m pc lc [.int n, .int dp, .ref (ad k1), .int sp, .ref (ad k0)]) := by
  obtain ⟨hx, hb, hml, hown, hts, hK, hR, hN, hfr, hlo, -⟩ := C0
  unfold hm_k28 at hlk
  split at hlk
  · simp only [decide_eq_true_eq] at hlk
    refine va_copyi (ty := .int) hx hb (by rw [hml, hL.2.1]) hown (hts _ (hm_in hlk rfl)) (hts _ hm_wa1) (hts _ hm_wa2) (hts _ hm_wa3) hK hP hD hS k0 k1 0 0 (c0 := cI) (c1 := cI) (hm_w_get h0) (hm_w_get h1) rfl rfl rfl (fun z => hc (Or.inl z)) (fun z => hc (Or.inr (Or.inl z))) (fun z => hc (Or.inr (Or.inr (Or.inl z)))) ?_ ?_ (fun _ _ => rfl) (by omega) ?_ hdec (fun H1 locs1 p1 p2 p3 => kk H1 locs1 ?_ p3)
    · rcases Nat.lt_or_ge n0 (sp.toNatClampNeg + n.toNatClampNeg) with q | q
      · exact absurd (Or.inr (Or.inr (Or.inr (Or.inl q)))) hc
      · exact q
    · rcases Nat.lt_or_ge n1 (dp.toNatClampNeg + n.toNatClampNeg) with q | q
      · exact absurd (Or.inr (Or.inr (Or.inr (Or.inr q)))) hc
      · exact q
    · have e : nativeFrameWords "java/lang/System" "arraycopy" 5 = 7 := by decide +kernel
      rw [e]
      simp only [List.map_nil, List.sum_nil]
      omega
    · have e := hm_w_arr (cI := cI) (cZ := cZ) (ad := ad) (M := M) (f := va_cpy (M k0) (M k1) sp.toNatClampNeg dp.toNatClampNeg n.toNatClampNeg) h1
      rw [← e]
      exact p1
  · cases hlk
theorem hm_w32 {x y : Int32} {r : List hm_V} (C0 : hm_Ctx D cI cZ ad A L xs t d cells slots p R s m args c) (hdec : decode t.2.1 pc = .ok (ins, 3)) (hlk : hm_k28 t.1.cls ins Lib.Math.max.name lk = true) (hd : 0 < d) (hr : r.length ≤ 4) (hL : hm_LR ad lc t.2.2.1 ls) (kk : W p l e R s m args below meth c H locs cells slots Q (F0 m (pc + 3) lc (.int (if x < y then y else x) :: r.map (hm_dv ad)))) : W p l e R s m args below meth c H locs cells slots Q (F0 m pc lc (.int y :: .int x :: r.map (hm_dv ad))) := by
  obtain ⟨hx, hb, hml, hown, hts, hK, hR, hN, hfr, hlo, hce, hsl, -⟩ := C0
  unfold hm_k28 at hlk
  split at hlk
  · simp only [decide_eq_true_eq] at hlk
    have hs := hm_sum ad r
    exact va_mmax hx hb (by rw [hml, hL.2.1]) hown (hts _ (hm_in hlk rfl)) (hts _ hm_wm1) (hts _ hm_wm5) (hts _ hm_wm2) (by omega) (by omega) hce hsl hdec kk
  · cases hlk
theorem hm_w33 {x y : Int32} {r : List hm_V} (C0 : hm_Ctx D cI cZ ad A L xs t d cells slots p R s m args c) (hdec : decode t.2.1 pc = .ok (ins, 3)) (hlk : hm_k28 t.1.cls ins Lib.Math.min.name lk = true) (hd : 0 < d) (hr : r.length ≤ 4) (hL : hm_LR ad lc t.2.2.1 ls) (kk : W p l e R s m args below meth c H locs cells slots Q (F0 m (pc + 3) lc (.int (if y < x then y else x) :: r.map (hm_dv ad)))) : W p l e R s m args below meth c H locs cells slots Q (F0 m pc lc (.int y :: .int x :: r.map (hm_dv ad))) := by
  obtain ⟨hx, hb, hml, hown, hts, hK, hR, hN, hfr, hlo, hce, hsl, -⟩ := C0
  unfold hm_k28 at hlk
  split at hlk
  · simp only [decide_eq_true_eq] at hlk
    have hs := hm_sum ad r
    exact va_mmin hx hb (by rw [hml, hL.2.1]) hown (hts _ (hm_in hlk rfl)) (hts _ hm_wm3) (hts _ hm_wm5) (hts _ hm_wm4) (by omega) (by omega) hce hsl hdec kk
  · cases hlk
end HMS
end
section
section HMS
variable {p : Program} {l : Launch} {e : Env} {R : Room} {s : State} {m : MethodId} {args : Array Value} {below : List Frame} {meth : Method} {c : Code} {H : Heap} {locs : List Loc} {cells slots : Nat} {Q : State → Prop}
variable {D : va_G} {cI cZ : ClassId} {ad : Nat → Nat} {A : Nat → Prop} {L : Nat} {xs : Nat → Int32} {t : hm_X} {d pc nx : Nat} {lc : Array Slot} {ls ls' : hm_L} {st st' : List hm_V} {M M1 : hm_M} {ins : Instr} {a : Int} {b pc' op lk : Nat} {ll : List (Int × Nat)} {rest : List Value}
set_option maxHeartbeats 4000000 in
theorem hm_stepW (C0 : hm_Ctx D cI cZ ad A L xs t d cells slots p R s m args c) (hdec : decode t.2.1 pc = .ok (ins, nx - pc)) (hlk : hm_lk hm_tb t.1.cls pc nx ins op a b ll lk = true) (hst : hm_step d nx op a b ll ls st M = some (pc', ls', st', M1)) (hP : va_P D vwCl (hm_w cI cZ ad M) H) (hD : va_D A (hm_w cI cZ ad M)) (hS : va_S A s.heap H locs) (hL : hm_LR ad lc t.2.2.1 ls) (hsc : hm_scr M L xs)
    (kk : ∀ (H1 : Heap) (locs1 : List Loc) (lc1 : Array Slot), va_P D vwCl (hm_w cI cZ ad M1) H1 → va_D A (hm_w cI cZ ad M1) → va_S A s.heap H1 locs1 → hm_LR ad lc1 t.2.2.1 ls' → hm_scr M1 L xs → W p l e R s m args below meth c H1 locs1 cells slots Q (F0 m pc' lc1 (st'.map (hm_dv ad)))) : W p l e R s m args below meth c H locs cells slots Q (F0 m pc lc (st.map (hm_dv ad))) := by
  match op, hlk, hst with
  | 0, hlk, hst => cases hst; exact hm_w0 C0 hdec hlk (kk _ _ _ hP hD hS hL hsc)
  | 31, hlk, hst => cases hst; exact hm_w0 C0 hdec hlk (kk _ _ _ hP hD hS hL hsc)
  | 1, hlk, hst =>
    simp only [hm_step] at hst
    split at hst
    · rename_i v hg
      by_cases hk : hm_kind a v = true
      · rw [if_pos hk] at hst; cases hst; exact hm_w1 C0 hdec hlk hk (hL.get hg) (kk _ _ _ hP hD hS hL hsc)
      · rw [if_neg hk] at hst; cases hst
    · cases hst
  | 2, hlk, hst =>
    simp only [hm_step] at hst
    split at hst
    · split at hst
      · rename_i hp
        cases hst
        exact hm_w2 C0 hdec hlk hL hp (fun lc1 h1 => kk _ _ lc1 hP hD hS h1 hsc)
      · cases hst
    · cases hst
  | 3, hlk, hst =>
    simp only [hm_lk, Bool.and_eq_true, decide_eq_true_eq] at hlk
    obtain ⟨rfl, rfl⟩ := hlk
    rw [Nat.add_sub_cancel_left] at hdec
    simp only [hm_step] at hst
    split at hst
    · rename_i x hg
      split at hst
      · rename_i hp
        cases hst
        exact hm_w3 C0 hdec hL hg hp (fun lc1 h1 => kk _ _ lc1 hP hD hS h1 hsc)
      · cases hst
    · cases hst
  | 4, hlk, hst =>
    simp only [hm_lk, Bool.and_eq_true, decide_eq_true_eq] at hlk
    obtain ⟨⟨rfl, h8⟩, rfl⟩ := hlk
    rw [Nat.add_sub_cancel_left] at hdec
    simp only [hm_step] at hst
    split at hst
    · cases hst; exact hm_w4 C0 hdec h8 (kk _ _ _ hP hD hS hL hsc)
    · cases hst
  | 5, hlk, hst =>
    simp only [hm_lk, Bool.and_eq_true, decide_eq_true_eq] at hlk
    obtain ⟨rfl, rfl⟩ := hlk
    rw [Nat.add_sub_cancel_left] at hdec
    simp only [hm_step] at hst
    split at hst
    · split at hst
      · cases hst
      · rename_i hy; cases hst; exact lv_idiv C0.1 C0.2.1 hdec hy (kk _ _ _ hP hD hS hL hsc)
    · cases hst
  | 6, hlk, hst =>
    simp only [hm_lk, Bool.and_eq_true, decide_eq_true_eq] at hlk
    obtain ⟨rfl, rfl⟩ := hlk
    rw [Nat.add_sub_cancel_left] at hdec
    simp only [hm_step] at hst
    split at hst
    · split at hst
      · cases hst
      · rename_i hy; cases hst; exact lv_irem C0.1 C0.2.1 hdec hy (kk _ _ _ hP hD hS hL hsc)
    · cases hst
  | 7, hlk, hst =>
    simp only [hm_lk, Bool.and_eq_true, decide_eq_true_eq] at hlk
    obtain ⟨⟨rfl, h8⟩, rfl⟩ := hlk
    rw [Nat.add_sub_cancel_left] at hdec
    simp only [hm_step] at hst
    split at hst
    · cases hst; exact hm_w7 C0 hdec h8 (kk _ _ _ hP hD hS hL hsc)
    · cases hst
  | 8, hlk, hst =>
    simp only [hm_lk, Bool.and_eq_true, decide_eq_true_eq] at hlk
    obtain ⟨rfl, rfl⟩ := hlk
    rw [Nat.add_sub_cancel_left] at hdec
    simp only [hm_step] at hst
    split at hst
    · cases hst; exact lv_i2l C0.1 C0.2.1 hdec rfl (kk _ _ _ hP hD hS hL hsc)
    · cases hst
  | 9, hlk, hst =>
    simp only [hm_lk, Bool.and_eq_true, decide_eq_true_eq] at hlk
    obtain ⟨rfl, rfl⟩ := hlk
    rw [Nat.add_sub_cancel_left] at hdec
    simp only [hm_step] at hst
    split at hst
    · cases hst; exact lv_l2i C0.1 C0.2.1 hdec rfl (kk _ _ _ hP hD hS hL hsc)
    · cases hst
  | 10, hlk, hst => cases hst; exact hm_w10 C0 hdec hlk (kk _ _ _ hP hD hS hL hsc)
  | 11, hlk, hst =>
    simp only [hm_lk, Bool.and_eq_true, decide_eq_true_eq] at hlk
    obtain ⟨rfl, rfl⟩ := hlk
    rw [Nat.add_sub_cancel_left] at hdec
    simp only [hm_step] at hst
    split at hst
    · cases hst; exact lv_lmul C0.1 C0.2.1 hdec (kk _ _ _ hP hD hS hL hsc)
    · cases hst
  | 12, hlk, hst =>
    simp only [hm_lk, Bool.and_eq_true, decide_eq_true_eq] at hlk
    obtain ⟨rfl, rfl⟩ := hlk
    rw [Nat.add_sub_cancel_left] at hdec
    simp only [hm_step] at hst
    split at hst
    · split at hst
      · cases hst
      · rename_i hy; cases hst; exact lv_lrem C0.1 C0.2.1 hdec hy (kk _ _ _ hP hD hS hL hsc)
    · cases hst
  | 13, hlk, hst =>
    simp only [hm_lk, Bool.and_eq_true, decide_eq_true_eq] at hlk
    obtain ⟨rfl, rfl⟩ := hlk
    rw [Nat.add_sub_cancel_left] at hdec
    simp only [hm_step] at hst
    split at hst
    · cases hst; exact W.lcmp C0.1 C0.2.1 hdec (kk _ _ _ hP hD hS hL hsc)
    · cases hst
  | 14, hlk, hst =>
    simp only [hm_lk, Bool.and_eq_true, decide_eq_true_eq] at hlk
    obtain ⟨⟨rfl, h8⟩, rfl⟩ := hlk
    rw [Nat.add_sub_cancel_left] at hdec
    simp only [hm_step] at hst
    split at hst
    · cases hst; exact hm_w14 C0 hdec h8 (kk _ _ _ hP hD hS hL hsc)
    · cases hst
  | 15, hlk, hst =>
    simp only [hm_lk, Bool.and_eq_true, decide_eq_true_eq] at hlk
    obtain ⟨⟨rfl, h8⟩, rfl⟩ := hlk
    rw [Nat.add_sub_cancel_left] at hdec
    simp only [hm_step] at hst
    split at hst
    · cases hst; exact hm_w15 C0 hdec h8 (kk _ _ _ hP hD hS hL hsc)
    · cases hst
  | 16, hlk, hst =>
    simp only [hm_lk, Bool.and_eq_true, decide_eq_true_eq] at hlk
    obtain ⟨rfl, rfl⟩ := hlk
    rw [Nat.add_sub_cancel_left] at hdec
    cases hst
    exact lv_goto C0.1 C0.2.1 hdec (by omega) (kk _ _ _ hP hD hS hL hsc)
  | 17, hlk, hst =>
    simp only [hm_step] at hst
    split at hst
    · cases hst; exact hm_w17 C0 hdec hlk (kk _ _ _ hP hD hS hL hsc)
    · cases hst
  | 18, hlk, hst =>
    simp only [hm_lk, Bool.and_eq_true, decide_eq_true_eq] at hlk
    obtain ⟨h1, rfl⟩ := hlk
    rw [Nat.add_sub_cancel_left] at hdec
    simp only [hm_step] at hst
    split at hst
    · split at hst
      · rename_i hf; cases hst; exact hm_w18 C0 hdec h1 hf hP (kk _ _ _ hP hD hS hL hsc)
      · rename_i hf; cases hst; exact hm_w18 C0 hdec h1 hf hP (kk _ _ _ hP hD hS hL hsc)
      · cases hst
    · cases hst
  | 19, hlk, hst =>
    simp only [hm_lk, Bool.and_eq_true, decide_eq_true_eq] at hlk
    obtain ⟨h1, rfl⟩ := hlk
    rw [Nat.add_sub_cancel_left] at hdec
    simp only [hm_step] at hst
    split at hst
    · split at hst
      · rename_i hf
        cases hst
        obtain ⟨c0, fl, g1, g2, g3⟩ := hm_fld_of hf
        exact hm_w19 C0 hdec h1 hf hP hD hS (fun H1 locs1 p1 p3 => kk H1 locs1 _ p1 (hm_D hD) p3 hL (hm_scr_row hsc g1))
      · cases hst
    · cases hst
  | 20, hlk, hst =>
    simp only [hm_lk, Bool.and_eq_true, decide_eq_true_eq] at hlk
    obtain ⟨rfl, rfl⟩ := hlk
    rw [Nat.add_sub_cancel_left] at hdec
    simp only [hm_step] at hst
    split at hst
    · split at hst
      · split at hst
        · cases hst
        · rename_i hf hy; cases hst; exact hm_w20 C0 hdec hf hy hP hS hsc (kk _ _ _ hP hD hS hL hsc)
      · cases hst
    · cases hst
  | 21, hlk, hst =>
    simp only [hm_lk, Bool.and_eq_true, decide_eq_true_eq] at hlk
    obtain ⟨rfl, rfl⟩ := hlk
    rw [Nat.add_sub_cancel_left] at hdec
    simp only [hm_step] at hst
    split at hst
    · split at hst
      · split at hst
        · split at hst
          · cases hst
          · rename_i hf hz hy; cases hst; exact hm_w21 C0 hdec hf hz hy hP hD hS (fun H1 locs1 p1 p3 => kk H1 locs1 _ p1 (hm_D hD) p3 hL (hm_scr_row hsc hf))
        · cases hst
      · cases hst
    · cases hst
  | 22, hlk, hst =>
    simp only [hm_lk, Bool.and_eq_true, decide_eq_true_eq] at hlk
    obtain ⟨rfl, rfl⟩ := hlk
    rw [Nat.add_sub_cancel_left] at hdec
    simp only [hm_step] at hst
    split at hst
    · split at hst
      · rename_i hf; cases hst; exact hm_w22 C0 hdec hf hP hS hsc (kk _ _ _ hP hD hS hL hsc)
      · cases hst
    · cases hst
  | 23, hlk, hst =>
    simp only [hm_lk, Bool.and_eq_true, decide_eq_true_eq] at hlk
    obtain ⟨h1, rfl⟩ := hlk
    rw [Nat.add_sub_cancel_left] at hdec
    simp only [hm_step] at hst
    by_cases h5 : b < 5
    · rw [if_pos h5] at hst; cases hst; exact hm_w23 C0 hdec h1 hS (kk _ _ _ hP hD hS hL hsc)
    · rw [if_neg h5] at hst; cases hst
  | 24, hlk, hst =>
    simp only [hm_lk, Bool.and_eq_true, decide_eq_true_eq] at hlk
    obtain ⟨rfl, rfl⟩ := hlk
    rw [Nat.add_sub_cancel_left] at hdec
    simp only [hm_step] at hst
    split at hst
    · split at hst
      · rename_i hv; cases hst; exact lv_dup C0.1 C0.2.1 hdec (hm_cat1 hv) (kk _ _ _ hP hD hS hL hsc)
      · cases hst
    · cases hst
  | 25, hlk, hst =>
    simp only [hm_lk, Bool.and_eq_true, decide_eq_true_eq] at hlk
    obtain ⟨rfl, rfl⟩ := hlk
    rw [Nat.add_sub_cancel_left] at hdec
    simp only [hm_step] at hst
    split at hst
    · split at hst
      · rename_i hv; cases hst; exact lv_pop C0.1 C0.2.1 hdec (hm_cat1 hv) (kk _ _ _ hP hD hS hL hsc)
      · cases hst
    · cases hst
  | 26, hlk, hst =>
    simp only [hm_lk, Bool.and_eq_true, decide_eq_true_eq] at hlk
    obtain ⟨rfl, rfl⟩ := hlk
    rw [Nat.add_sub_cancel_left] at hdec
    simp only [hm_step] at hst
    split at hst
    · split at hst
      · rename_i hv; cases hst; exact lv_dup2_11 C0.1 C0.2.1 hdec (hm_cat1 hv.1) (hm_cat1 hv.2) (kk _ _ _ hP hD hS hL hsc)
      · cases hst
    · cases hst
  | 28, hlk, hst =>
    simp only [hm_lk, Bool.and_eq_true, decide_eq_true_eq] at hlk
    obtain ⟨h1, rfl⟩ := hlk
    rw [Nat.add_sub_cancel_left] at hdec
    simp only [hm_step] at hst
    split at hst
    · split at hst
      · split at hst
        · cases hst
        · rename_i g0 g1 hy
          cases hst
          exact hm_w28 C0 hdec h1 (Nat.succ_pos _) hL g0 g1 hy hP hD hS (fun H1 locs1 p1 p3 => kk H1 locs1 _ p1 (hm_D hD) p3 hL (hm_scr_row hsc g1))
      · cases hst
    · cases hst
  | 32, hlk, hst =>
    simp only [hm_lk, Bool.and_eq_true, decide_eq_true_eq] at hlk
    obtain ⟨h1, rfl⟩ := hlk
    rw [Nat.add_sub_cancel_left] at hdec
    simp only [hm_step] at hst
    split at hst
    · split at hst
      · rename_i hr; cases hst; exact hm_w32 C0 hdec h1 (Nat.succ_pos _) hr hL (kk _ _ _ hP hD hS hL hsc)
      · cases hst
    · cases hst
  | 33, hlk, hst =>
    simp only [hm_lk, Bool.and_eq_true, decide_eq_true_eq] at hlk
    obtain ⟨h1, rfl⟩ := hlk
    rw [Nat.add_sub_cancel_left] at hdec
    simp only [hm_step] at hst
    split at hst
    · split at hst
      · rename_i hr; cases hst; exact hm_w33 C0 hdec h1 (Nat.succ_pos _) hr hL (kk _ _ _ hP hD hS hL hsc)
      · cases hst
    · cases hst
  | 27, _, hst => cases hst
  | 29, _, hst => cases hst
  | 30, _, hst => cases hst
  | n + 34, _, hst => cases hst
end HMS
theorem hm_at_of {mid pc nx op b : Nat} {a : Int} {l : List (Int × Nat)} {t : hm_X} (ht : hm_tab[mid]? = some t) (h : hm_at mid pc = some (nx, op, a, b, l)) : ∃ ins lk, ((pc, nx, ins, op, a, b, l, lk) : hm_I) ∈ t.2.2.2.2.2.2.2 := by
  unfold hm_at at h
  rw [ht] at h
  dsimp only at h
  split at h
  · cases h
  · rename_i q hq
    have h1 := List.find?_some hq
    have h2 := List.mem_of_find?_eq_some hq
    obtain ⟨pc0, nx0, ins, op0, a0, b0, l0, lk⟩ := q
    simp only [Option.some.injEq, Prod.mk.injEq] at h
    obtain ⟨rfl, rfl, rfl, rfl, rfl⟩ := h
    have e : pc0 = pc := by simpa using h1
    subst e
    exact ⟨ins, lk, h2⟩
theorem hm_chk_of {mid pc nx op b : Nat} {a : Int} {l : List (Int × Nat)} {t : hm_X} (hk : hm_okT t) (ht : hm_tab[mid]? = some t) (h : hm_at mid pc = some (nx, op, a, b, l)) : ∃ ins lk, decode t.2.1 pc = .ok (ins, nx - pc) ∧ hm_lk hm_tb t.1.cls pc nx ins op a b l lk = true ∧ (op = 29 → (b = 0 ∧ t.2.2.2.1 = some .int) ∨ (b = 1 ∧ t.2.2.2.1 = some .boolean)) ∧ (op = 30 → t.2.2.2.1 = none) := by
  obtain ⟨ins, lk, hm⟩ := hm_at_of ht h
  have h1 := List.all_eq_true.mp hk _ hm
  simp only [hm_chkI, Bool.and_eq_true, decide_eq_true_eq] at h1
  obtain ⟨⟨h2, h3⟩, h4⟩ := h1
  refine ⟨ins, lk, h2, h3, fun e => ?_, fun e => ?_⟩
  · subst e
    match b, h4 with
    | 0, h4 => exact Or.inl ⟨rfl, of_decide_eq_true h4⟩
    | 1, h4 => exact Or.inr ⟨rfl, of_decide_eq_true h4⟩
    | n + 2, h4 => cases h4
  · subst e
    simpa using h4
theorem hm_M_of {t : hm_X} (h : hm_chkM t = true) : Cond.code t.1 t.2.1 t.2.2.1 t.2.2.2.1 ∈ hm_tbl ∧ Cond.initialized t.1.cls ∈ hm_tbl ∧ (t.2.2.2.2.1 = true → Cond.static t.1 ∈ hm_tbl) ∧ (t.2.2.2.2.1 = false → Cond.instanceMethod t.1 ∈ hm_tbl ∧ Cond.selects t.1.cls t.1 t.1 ∈ hm_tbl ∧ 0 < t.2.2.2.2.2.1) ∧ plainName t.1.cls = true ∧ t.1.cls ≠ "java/lang/invoke/MethodHandle" ∧ t.1.cls ≠ "java/lang/invoke/VarHandle" ∧ (parseMethodDescriptor t.1.desc).map (fun d => d.parameters.length) = some (if t.2.2.2.2.1 = true then t.2.2.2.2.2.1 else t.2.2.2.2.2.1 - 1) ∧ t.2.2.1 ≤ 20 := by
  unfold hm_chkM at h
  split at h
  · simp only [Bool.and_eq_true, Bool.or_eq_true, decide_eq_true_eq] at h
    obtain ⟨⟨⟨⟨⟨⟨⟨⟨⟨h1, h2⟩, h3⟩, h4⟩, h5⟩, h6⟩, h7⟩, h8⟩, h9⟩, h10⟩ := h
    refine ⟨hm_in h1 rfl, hm_in h2 rfl, fun e => ?_, fun e => ?_, h5, h6, h7, h8, h9⟩
    · dsimp only at e
      rw [if_pos e] at h3
      exact hm_in h3 rfl
    · dsimp only at e
      rw [if_neg (by rw [e]; decide)] at h3
      refine ⟨hm_in h3 rfl, ?_, ?_⟩
      · rcases h4 with h | h
        · rw [e] at h; cases h
        · exact hm_in h rfl
      · rcases h10 with h | h
        · rw [e] at h; cases h
        · exact h
  · cases h
end
section
def hm_rm (d : Nat) : Room := { frames := d, cells := 0, slots := 0, locals := 64 * d }
def hm_Pc (D : va_G) (cI cZ : ClassId) (ad : Nat → Nat) (L : Nat) (xs : Nat → Int32) (vs : List hm_V) (M : hm_M) : Array Value → State → Prop :=
  va_Pc (vs.map (hm_dv ad)) (fun U => va_P D vwCl (hm_w cI cZ ad M) U.heap ∧ va_K D vwCl [(cI, .int), (cZ, .boolean)] U ∧ va_D (hm_A ad) (hm_w cI cZ ad M) ∧ hm_Ro ad (hm_A ad) L xs U U.heap ∧ hm_N U)
def hm_Qc (D : va_G) (cI cZ : ClassId) (ad : Nat → Nat) (L : Nat) (xs : Nat → Int32) (r : Option hm_V) (M : hm_M) : Array Value → State → Outcome → State → Prop :=
  fun _ st o t => o = .returned (r.map (hm_dv ad)) ∧ va_P D vwCl (hm_w cI cZ ad M) t.heap ∧ va_F (hm_A ad) st t ∧ hm_scr M L xs
theorem hm_blind {D : va_G} {cI cZ : ClassId} {ad : Nat → Nat} {L : Nat} {xs : Nat → Int32} {vs : List hm_V} {M : hm_M} : FrameBlind (hm_Pc D cI cZ ad L xs vs M) := by
  intro a U g mk h
  obtain ⟨h0, h1, h2, h3, h4, h5⟩ := h
  refine ⟨h0, h1, va_K.moved (u := U) (U := U.calling g mk a) (Vm.Alike.refl U.vm) h2, h3, ?_, fun x i b n dd hh hm => (h5 x i b n dd hh hm).same rfl rfl⟩
  exact hm_Ro.go (s := U) (U := U.calling g mk a) (H := U.heap) (locs := []) h4 va_S.rf (Vm.Alike.refl U.vm) (fun _ z => z)
section HMC
variable {p : Program} {l : Launch} {e : Env} {R : Room} {s : State} {m : MethodId} {args : Array Value} {below : List Frame} {meth : Method} {c : Code} {H : Heap} {locs : List Loc} {cells slots : Nat} {Q : State → Prop}
variable {D : va_G} {cI cZ : ClassId} {ad : Nat → Nat} {A : Nat → Prop} {L : Nat} {xs : Nat → Int32} {pc : Nat} {lc : Array Slot} {r : Option hm_V} {M : hm_M} {rest st0 : List Value} {a : Array Value}
theorem hm_cont (hr : va_Run p l e R s m args below meth c H locs cells slots 0 0 (F0 m pc lc st0) rest (hm_Qc D cI cZ ad L xs r M a) (hm_A ad)) (hS : va_S A s.heap H locs) (hA : ∀ q, hm_A ad q → A q)
    (kk : ∀ (H1 : Heap) (locs1 : List Loc), va_P D vwCl (hm_w cI cZ ad M) H1 → va_S A s.heap H1 locs1 → hm_scr M L xs → W p l e R s m args below meth c H1 locs1 cells slots Q (F0 m (pc + 3) lc ((r.map (hm_dv ad)).toList ++ rest))) : W p l e R s m args below meth c H locs cells slots Q (F0 m pc lc st0) := by
  intro T hT X
  obtain ⟨v, st₀, t, T', L', h0, X', hL, e1, e2, ⟨hv, hP, ⟨hz, hk⟩, hsc⟩, st⟩ := hr T hT X
  cases hv
  rw [h0] at hz hk
  obtain ⟨t2, a1, b1⟩ := kk T'.heap (locs ++ L') (by rw [e1]; exact hP)
    ⟨Nat.le_trans hS.1 (by rw [e1]; exact hz), fun q h1 h2 => by rw [e1, hk q (Nat.lt_of_lt_of_le h1 hS.1) (fun z => h2 (hA q z))]; exact hS.2.1 q h1 h2, fun q hq => by
      rcases List.mem_append.mp hq with h | h
      · exact hS.2.2 q h
      · exact hA _ (hL q h)⟩ hsc T' rfl X'
  exact ⟨t2, st t2 a1, b1⟩
end HMC
def hm_WALK (n : Nat) : Prop :=
  ∀ (D : va_G) (cI cZ : ClassId) (ad : Nat → Nat) (A : Nat → Prop) (L : Nat) (xs : Nat → Int32) (mid : Nat) (t : hm_X) (d cells slots : Nat) (p : Program) (l : Launch) (e : Env) (R : Room) (s : State) (m : MethodId) (args : Array Value) (below : List Frame) (meth : Method) (c : Code) (Q : State → Prop) (fin : Option hm_V → hm_M → Prop),
  hm_tab[mid]? = some t → hm_Ctx D cI cZ ad A L xs t d cells slots p R s m args c →
  (∀ (pc : Nat) (x : Int32) (H : Heap) (locs : List Loc) (lc : Array Slot) (M : hm_M), decode t.2.1 pc = .ok (.ireturn, 1) → fin (some (.inl x)) M → (t.2.2.2.1 = some .int ∨ (t.2.2.2.1 = some .boolean ∧ (x = 0 ∨ x = 1))) → hm_scr M L xs → va_P D vwCl (hm_w cI cZ ad M) H → va_S A s.heap H locs → W p l e R s m args below meth c H locs cells slots Q (F0 m pc lc [.int x])) →
  (∀ (pc : Nat) (H : Heap) (locs : List Loc) (lc : Array Slot) (M : hm_M), decode t.2.1 pc = .ok (.return_, 1) → fin none M → t.2.2.2.1 = none → hm_scr M L xs → va_P D vwCl (hm_w cI cZ ad M) H → va_S A s.heap H locs → W p l e R s m args below meth c H locs cells slots Q (F0 m pc lc [])) →
  ∀ (pc : Nat) (ls : hm_L) (st : List hm_V) (M : hm_M) (r : Option hm_V) (M' : hm_M), hm_run n d mid pc ls st M = some (r, M') → fin r M' → hm_scr M L xs → ∀ (H : Heap) (locs : List Loc) (lc : Array Slot), va_P D vwCl (hm_w cI cZ ad M) H → va_D A (hm_w cI cZ ad M) → va_S A s.heap H locs → hm_LR ad lc t.2.2.1 ls → W p l e R s m args below meth c H locs cells slots Q (F0 m pc lc (st.map (hm_dv ad)))
def hm_MET (n : Nat) : Prop :=
  ∀ (D : va_G) (cI cZ : ClassId) (ad : Nat → Nat) (L : Nat) (xs : Nat → Int32) (l : Launch) (mid : Nat) (t : hm_X) (d : Nat) (vs : List hm_V) (M : hm_M) (r : Option hm_V) (M' : hm_M),
  hm_tabM[mid]? = some t → L < 2 ^ 31 → hm_scr M L xs → (hm_ent t.2.2.1 vs).length = t.2.2.1 → hm_run n d mid 0 (hm_ent t.2.2.1 vs) [] M = some (r, M') → Met l t.1 (Cond.code t.1 t.2.1 t.2.2.1 t.2.2.2.1 :: hm_tbl) (hm_rm d) (hm_Pc D cI cZ ad L xs vs M) (hm_Qc D cI cZ ad L xs r M') 0 0 (hm_A ad)
theorem hm_tab_of {mid : Nat} {t : hm_X} (h : hm_tabM[mid]? = some t) : hm_tab[mid]? = some t := by
  have hl := (List.getElem?_eq_some_iff.mp h).1
  show (hm_tabM ++ _)[mid]? = some t
  rw [List.getElem?_append_left hl]
  exact h
theorem hm_met_of {n : Nat} (hmA : ∀ t ∈ hm_tabM, hm_chkM t = true) (hw : hm_WALK n) : hm_MET n := by
  intro D cI cZ ad L xs l mid t d vs M r M' ht hL hsc hent hrun
  obtain ⟨-, -, -, -, hpl, -⟩ := hm_M_of (hmA t (List.mem_of_getElem? ht))
  refine Met.ofW (cc := t.2.1) (maxL := t.2.2.1) (ret := t.2.2.2.1) hpl rfl ?_
  intro p e s m args below meth c s₁ B hml hv
  obtain ⟨rfl, hP, hK, hD, hR, hN⟩ := hv
  have hts0 := atoms_spec (ws := Cond.code t.1 t.2.1 t.2.2.1 t.2.2.2.1 :: hm_tbl) B.pre
  have hts : ∀ w ∈ hm_tbl, w.before (vs.map (hm_dv ad)).toArray s = true := fun w h => hts0 w (List.mem_cons_of_mem _ h)
  have hown : s.vm.findClass t.1.cls = some m.cls := findClass_of_methodNamed B.named
  rw [lg_entry_eq]
  refine hw D cI cZ ad (hm_A ad) L xs mid t d 0 0 p l e _ s m _ below meth c _ (fun r1 M1 => r1 = r ∧ M1 = M') (hm_tab_of ht) ⟨B.exec, B.bytes, hml, hown, hts, hK, hR, hN, Nat.le_refl _, Nat.le_refl _, Nat.zero_le _, Nat.zero_le _, hL⟩ ?_ ?_ 0 _ [] M r M' hrun ⟨rfl, rfl⟩ hsc s.heap [] _ hP hD va_S.rf (hm_ent_ok hent)
  · intro pc x H locs lc M1 hd hf hrt hsc1 hP1 hS1
    obtain ⟨hr1, rfl⟩ := hf
    subst hr1
    rcases hrt with hrt | ⟨hrt, hx⟩
    · exact W.iret (hlocks := B.notSynchronized) B.exec B.bytes (B.returns.trans hrt) (fun t2 h2 _ => ⟨rfl, by rw [h2]; exact hP1, hS1.F h2, hsc1⟩) hS1.2.2 hd
    · exact W.zret (hlocks := B.notSynchronized) (ty := .boolean) B.exec B.bytes (B.returns.trans hrt) (by rcases hx with rfl | rfl <;> rfl) (fun t2 h2 _ => ⟨rfl, by rw [h2]; exact hP1, hS1.F h2, hsc1⟩) hS1.2.2 hd
  · intro pc H locs lc M1 hd hf hrt hsc1 hP1 hS1
    obtain ⟨hr1, rfl⟩ := hf
    subst hr1
    exact W.vret (hlocks := B.notSynchronized) B.exec B.bytes (B.returns.trans hrt) (fun t2 h2 _ => ⟨rfl, by rw [h2]; exact hP1, hS1.F h2, hsc1⟩) hS1.2.2 hd
theorem hm_recv_of {y : MethodName} {vs : List hm_V} (h : hm_recv y false vs = true) : ∃ k As ci fl q, vs = .inr (.inr k) :: As ∧ hm_sh[k]? = some (.inr (ci, fl)) ∧ vwCl[ci]? = some q ∧ q.1 = y.cls := by
  unfold hm_recv at h
  rw [if_neg (by decide)] at h
  split at h
  · rename_i k As
    split at h
    · rename_i ci fl hk
      split at h
      · rename_i q hq
        exact ⟨k, As, ci, fl, q, rfl, hk, hq, by simpa using h⟩
      · cases h
    · cases h
  · cases h
theorem hm_walk_succ {n : Nat} (hkA : ∀ t ∈ hm_tab, hm_okT t) (hmA : ∀ t ∈ hm_tabM, hm_chkM t = true) (ih : hm_WALK n) : hm_WALK (n + 1) := by
  have ihM := hm_met_of hmA ih
  intro D cI cZ ad A L xs mid t d cells slots p l e R s m args below meth c Q fin ht C0 hI hV pc ls st M r M' hrun hfin hsc H locs lc hP hD hS hLR
  simp only [hm_run] at hrun
  split at hrun
  · cases hrun
  · rename_i nx op a b ll hat
    obtain ⟨ins, lk, hdec, hlk, h29, h30⟩ := hm_chk_of (hkA t (List.mem_of_getElem? ht)) ht hat
    by_cases h1 : op = 29
    · rw [if_pos h1] at hrun
      subst h1
      simp only [hm_lk, Bool.and_eq_true, decide_eq_true_eq] at hlk
      obtain ⟨rfl, rfl⟩ := hlk
      rw [Nat.add_sub_cancel_left] at hdec
      split at hrun
      · rename_i x
        by_cases hb : b = 1 ∧ ¬ (x = 0 ∨ x = 1)
        · rw [if_pos hb] at hrun; cases hrun
        · rw [if_neg hb] at hrun
          cases hrun
          refine hI pc x H locs lc M hdec hfin ?_ hsc hP hS
          rcases h29 rfl with ⟨-, h⟩ | ⟨h2, h⟩
          · exact Or.inl h
          · refine Or.inr ⟨h, ?_⟩
            rcases Classical.em (x = 0 ∨ x = 1) with h3 | h3
            · exact h3
            · exact absurd ⟨h2, h3⟩ hb
      · cases hrun
    · rw [if_neg h1] at hrun
      by_cases h2 : op = 30
      · rw [if_pos h2] at hrun
        subst h2
        simp only [hm_lk, Bool.and_eq_true, decide_eq_true_eq] at hlk
        obtain ⟨rfl, rfl⟩ := hlk
        rw [Nat.add_sub_cancel_left] at hdec
        split at hrun
        · cases hrun
          exact hV pc H locs lc M hdec hfin (h30 rfl) hsc hP hS
        · cases hrun
      · rw [if_neg h2] at hrun
        by_cases h3 : op = 27
        · rw [if_pos h3] at hrun
          subst h3
          simp only [hm_lk, Bool.and_eq_true, decide_eq_true_eq] at hlk
          obtain ⟨hlk, rfl⟩ := hlk
          rw [Nat.add_sub_cancel_left] at hdec
          split at hrun
          · rename_i d' t' hb'
            split at hrun
            · rename_i hcond
              obtain ⟨hna, hr4, hrecv, hent⟩ := hcond
              split at hrun
              · rename_i r1 M1 hcall
                obtain ⟨hx, hbc, hml, hown, hts, hK, hR, hN, hfr, hlo, hce, hsl, hL31⟩ := id C0
                have hM := ihM D cI cZ ad L xs l b t' d' _ M r1 M1 hb' hL31 hsc hent hcall
                obtain ⟨w1, w2, w3, w4, w5, w6, w7, w8, w9⟩ := hm_M_of (hmA t' (List.mem_of_getElem? hb'))
                have hAW := hm_A_in hD
                have hG : GoodIn hm_tbl (Cond.code t'.1 t'.2.1 t'.2.2.1 t'.2.2.2.1 :: hm_tbl) := fun w hw => by
                  have hin : w ∈ hm_tbl := by
                    rcases List.mem_cons.mp hw with rfl | h
                    · exact w1
                    · exact h
                  exact ⟨hin, good_of_word (hm_gd w hin).2⟩
                have hpre : ∀ U : State, U.heap = H → s.WarmedH U.vm → hm_Pc D cI cZ ad L xs (st.take t'.2.2.2.2.2.1).reverse M (((st.take t'.2.2.2.2.2.1).reverse.map (hm_dv ad)).toArray) U := fun U hU hW => ⟨rfl, by rw [hU]; exact hP, va_K.moved hW.alike hK, hm_DA hD, by rw [hU]; exact hR.go hS hW.alike hAW, fun a1 i1 b1 n1 d1 h1 hm1 => va_Nw.warmF hW (hN a1 i1 b1 n1 d1 h1 hm1)⟩
                have hgo : ∀ (H1 : Heap) (locs1 : List Loc), va_P D vwCl (hm_w cI cZ ad M1) H1 → va_S A s.heap H1 locs1 → hm_scr M1 L xs → W p l e R s m args below meth c H1 locs1 cells slots Q (F0 m (pc + 3) lc ((r1.map (hm_dv ad)).toList ++ (st.drop t'.2.2.2.2.2.1).map (hm_dv ad))) := by
                  intro H1 locs1 p1 p2 p3
                  have k1 := ih D cI cZ ad A L xs mid t (d' + 1) cells slots p l e R s m args below meth c Q fin ht C0 hI hV (pc + 3) ls _ M1 r M' hrun hfin p3 H1 locs1 lc p1 (hm_D hD) p2 hLR
                  have e1 : (r1.toList ++ st.drop t'.2.2.2.2.2.1).map (hm_dv ad) = (r1.map (hm_dv ad)).toList ++ (st.drop t'.2.2.2.2.2.1).map (hm_dv ad) := by
                    cases r1 <;> simp
                  rw [e1] at k1
                  exact k1
                have hsum : 2 * (F0 m pc lc (st.map (hm_dv ad))).monitorRoom + (((st.drop t'.2.2.2.2.2.1).map (hm_dv ad)).map fun v => v.category).sum ≤ 8 := lv_room (by have := hm_sum ad (st.drop t'.2.2.2.2.2.1); omega)
                have hroom : (hm_rm d').frames + 1 ≤ R.frames ∧ 8 + (t'.2.2.1 + 11) + (hm_rm d').locals ≤ R.locals := ⟨hfr, by show 8 + (t'.2.2.1 + 11) + 64 * d' ≤ R.locals; omega⟩
                have hstk : st = (st.take t'.2.2.2.2.2.1).reverse.reverse ++ st.drop t'.2.2.2.2.2.1 := by rw [List.reverse_reverse, List.take_append_drop]
                have htk : (st.take t'.2.2.2.2.2.1).reverse.length = t'.2.2.2.2.2.1 := by rw [List.length_reverse, List.length_take]; omega
                have htb : hm_tb[b]? = some (t'.1, t'.2.2.2.2.2.1, t'.2.2.2.2.1) := by
                  rw [hm_tb_eq, List.getElem?_map, hm_tab_of hb']; rfl
                unfold hm_k27 at hlk
                rw [htb] at hlk
                dsimp only at hlk
                split at hlk
                · rename_i i
                  simp only [Bool.and_eq_true, decide_eq_true_eq] at hlk
                  obtain ⟨hst, hlink⟩ := hlk
                  obtain ⟨v1, v2, v3⟩ := w4 hst
                  rw [hst] at hrecv w8
                  rw [if_neg (by decide)] at w8
                  obtain ⟨k, As, ci, fl, q, hvs, hk, hq, hqc⟩ := hm_recv_of hrecv
                  generalize (st.take t'.2.2.2.2.2.1).reverse = vs at hM hpre hvs hstk htk
                  subst hvs
                  have hAl : (As.map (hm_dv ad)).length = t'.2.2.2.2.2.1 - 1 := by simp only [List.length_cons, List.length_map] at htk ⊢; omega
                  refine hm_cont (va_runV (As := As.map (hm_dv ad)) (rest := (st.drop t'.2.2.2.2.2.1).map (hm_dv ad)) (b := ad k) (C := t'.1.cls) ⟨hx, hbc, hml, hown, hts⟩ hM ⟨callB_of (t'.2.2.2.2.2.1 - 1) hts hG rfl rfl rfl (hts _ w2) (hts _ (hm_in hlink rfl)) ⟨w6, w7, w8⟩ hroom, hts _ v1, hts _ v2⟩ ⟨hm_blind, ?_, hpre⟩ rfl hAl hLR.2.1 ?_ hsum hdec ⟨hce, hsl⟩) hS hAW hgo
                  · obtain ⟨cell, g1, g2, g3⟩ := va_recv hK hP hq (hm_w_get hk)
                    exact ⟨cell, g1, g2, by rw [← hqc]; exact g3⟩
                  · show st.map (hm_dv ad) = _
                    conv => lhs; rw [hstk]
                    simp [hm_dv]
                · rename_i i
                  simp only [Bool.and_eq_true, decide_eq_true_eq] at hlk
                  obtain ⟨hst, hlink⟩ := hlk
                  rw [hst] at w8
                  rw [if_pos rfl] at w8
                  refine hm_cont (va_runS (As := (st.take t'.2.2.2.2.2.1).reverse.map (hm_dv ad)) (rest := (st.drop t'.2.2.2.2.2.1).map (hm_dv ad)) ⟨hx, hbc, hml, hown, hts⟩ hM ⟨callB_of t'.2.2.2.2.2.1 hts hG rfl rfl rfl (hts _ w2) (hts _ (hm_in hlink rfl)) ⟨w6, w7, w8⟩ hroom, hts _ (w3 hst)⟩ ⟨hm_blind, hpre⟩ rfl (by rw [List.length_map]; exact htk) hLR.2.1 ?_ hsum hdec ⟨hce, hsl⟩) hS hAW hgo
                  show st.map (hm_dv ad) = _
                  conv => lhs; rw [hstk]
                  simp
                · cases hlk
              · cases hrun
            · cases hrun
          · cases hrun
        · rw [if_neg h3] at hrun
          split at hrun
          · rename_i pc' ls' st' M1 hst
            exact hm_stepW C0 hdec hlk hst hP hD hS hLR hsc (fun H1 locs1 lc1 p1 p2 p3 p4 p5 => ih D cI cZ ad A L xs mid t d cells slots p l e R s m args below meth c Q fin ht C0 hI hV pc' ls' st' M1 r M' hrun hfin p5 H1 locs1 lc1 p1 p2 p3 p4)
          · cases hrun
theorem hm_walk (hkA : ∀ t ∈ hm_tab, hm_okT t) (hmA : ∀ t ∈ hm_tabM, hm_chkM t = true) : ∀ n, hm_WALK n
  | 0 => by
    intro D cI cZ ad A L xs mid t d cells slots p l e R s m args below meth c Q fin ht C0 hI hV pc ls st M r M' hrun
    simp [hm_run] at hrun
  | n + 1 => hm_walk_succ hkA hmA (hm_walk hkA hmA n)
end
section
set_option maxRecDepth 100000 in
theorem hm_ck0 : hm_okT hm_T0 := by decide +kernel
theorem hm_cm0 : hm_chkM hm_T0 = true := by decide +kernel
set_option maxRecDepth 100000 in
theorem hm_ck1 : hm_okT hm_T1 := by decide +kernel
theorem hm_cm1 : hm_chkM hm_T1 = true := by decide +kernel
set_option maxRecDepth 100000 in
theorem hm_ck2 : hm_okT hm_T2 := by decide +kernel
theorem hm_cm2 : hm_chkM hm_T2 = true := by decide +kernel
set_option maxRecDepth 100000 in
theorem hm_ck3 : hm_okT hm_T3 := by decide +kernel
theorem hm_cm3 : hm_chkM hm_T3 = true := by decide +kernel
set_option maxRecDepth 100000 in
theorem hm_ck4 : hm_okT hm_T4 := by decide +kernel
theorem hm_cm4 : hm_chkM hm_T4 = true := by decide +kernel
set_option maxRecDepth 100000 in
theorem hm_ck5 : hm_okT hm_T5 := by decide +kernel
theorem hm_cm5 : hm_chkM hm_T5 = true := by decide +kernel
set_option maxRecDepth 100000 in
theorem hm_ck6 : hm_okT hm_T6 := by decide +kernel
theorem hm_cm6 : hm_chkM hm_T6 = true := by decide +kernel
set_option maxRecDepth 100000 in
theorem hm_ck7 : hm_okT hm_T7 := by decide +kernel
theorem hm_cm7 : hm_chkM hm_T7 = true := by decide +kernel
set_option maxRecDepth 100000 in
theorem hm_ck8 : hm_okT hm_T8 := by decide +kernel
theorem hm_cm8 : hm_chkM hm_T8 = true := by decide +kernel
set_option maxRecDepth 100000 in
theorem hm_ck9 : hm_okT hm_T9 := by decide +kernel
theorem hm_cm9 : hm_chkM hm_T9 = true := by decide +kernel
set_option maxRecDepth 100000 in
theorem hm_ck10 : hm_okT hm_T10 := by decide +kernel
theorem hm_cm10 : hm_chkM hm_T10 = true := by decide +kernel
set_option maxRecDepth 100000 in
theorem hm_ck11 : hm_okT hm_T11 := by decide +kernel
theorem hm_cm11 : hm_chkM hm_T11 = true := by decide +kernel
set_option maxRecDepth 100000 in
theorem hm_ck12 : hm_okT hm_T12 := by decide +kernel
theorem hm_cm12 : hm_chkM hm_T12 = true := by decide +kernel
set_option maxRecDepth 100000 in
theorem hm_ck13 : hm_okT hm_T13 := by decide +kernel
theorem hm_cm13 : hm_chkM hm_T13 = true := by decide +kernel
set_option maxRecDepth 100000 in
theorem hm_ck14 : hm_okT hm_T14 := by decide +kernel
theorem hm_cm14 : hm_chkM hm_T14 = true := by decide +kernel
set_option maxRecDepth 100000 in
theorem hm_ck15 : hm_okT hm_T15 := by decide +kernel
theorem hm_cm15 : hm_chkM hm_T15 = true := by decide +kernel
set_option maxRecDepth 100000 in
theorem hm_ck16 : hm_okT hm_T16 := by decide +kernel
theorem hm_cm16 : hm_chkM hm_T16 = true := by decide +kernel
set_option maxRecDepth 100000 in
theorem hm_ck17 : hm_okT hm_T17 := by decide +kernel
theorem hm_cm17 : hm_chkM hm_T17 = true := by decide +kernel
set_option maxRecDepth 100000 in
theorem hm_ck18 : hm_okT hm_T18 := by decide +kernel
theorem hm_cm18 : hm_chkM hm_T18 = true := by decide +kernel
set_option maxRecDepth 100000 in
theorem hm_ck19 : hm_okT hm_T19 := by decide +kernel
theorem hm_cm19 : hm_chkM hm_T19 = true := by decide +kernel
set_option maxRecDepth 100000 in
theorem hm_ck20 : hm_okT hm_T20 := by decide +kernel
theorem hm_cm20 : hm_chkM hm_T20 = true := by decide +kernel
set_option maxRecDepth 100000 in
theorem hm_ck21 : hm_okT hm_T21 := by decide +kernel
theorem hm_cm21 : hm_chkM hm_T21 = true := by decide +kernel
set_option maxRecDepth 100000 in
theorem hm_ck22 : hm_okT hm_T22 := by decide +kernel
theorem hm_cm22 : hm_chkM hm_T22 = true := by decide +kernel
set_option maxRecDepth 100000 in
theorem hm_ck23 : hm_okT hm_T23 := by decide +kernel
theorem hm_cm23 : hm_chkM hm_T23 = true := by decide +kernel
set_option maxRecDepth 100000 in
theorem hm_ck24 : hm_okT hm_T24 := by decide +kernel
theorem hm_cm24 : hm_chkM hm_T24 = true := by decide +kernel
set_option maxRecDepth 100000 in
theorem hm_ck25 : hm_okT hm_T25 := by decide +kernel
theorem hm_cm25 : hm_chkM hm_T25 = true := by decide +kernel
set_option maxRecDepth 100000 in
theorem hm_ck26 : hm_okT hm_T26 := by decide +kernel
theorem hm_cm26 : hm_chkM hm_T26 = true := by decide +kernel
set_option maxRecDepth 100000 in
theorem hm_ck27 : hm_okT hm_T27 := by decide +kernel
theorem hm_cm27 : hm_chkM hm_T27 = true := by decide +kernel
set_option maxRecDepth 100000 in
theorem hm_ck28 : hm_okT hm_T28 := by decide +kernel
theorem hm_cm28 : hm_chkM hm_T28 = true := by decide +kernel
set_option maxRecDepth 100000 in
theorem hm_ck29 : hm_okT hm_T29 := by decide +kernel
theorem hm_cm29 : hm_chkM hm_T29 = true := by decide +kernel
set_option maxRecDepth 100000 in
theorem hm_ck30 : hm_okT hm_T30 := by decide +kernel
theorem hm_cm30 : hm_chkM hm_T30 = true := by decide +kernel
set_option maxRecDepth 100000 in
theorem hm_ck31 : hm_okT hm_T31 := by decide +kernel
theorem hm_cm31 : hm_chkM hm_T31 = true := by decide +kernel
set_option maxRecDepth 100000 in
theorem hm_ck32 : hm_okT hm_T32 := by decide +kernel
theorem hm_cm32 : hm_chkM hm_T32 = true := by decide +kernel
set_option maxRecDepth 100000 in
theorem hm_ck33 : hm_okT hm_T33 := by decide +kernel
theorem hm_cm33 : hm_chkM hm_T33 = true := by decide +kernel
end
section
set_option maxRecDepth 100000 in
theorem hm_ck34 : hm_okT hm_T34 := by decide +kernel
theorem hm_cm34 : hm_chkM hm_T34 = true := by decide +kernel
set_option maxRecDepth 100000 in
theorem hm_ck35 : hm_okT hm_T35 := by decide +kernel
theorem hm_cm35 : hm_chkM hm_T35 = true := by decide +kernel
set_option maxRecDepth 100000 in
theorem hm_ck36 : hm_okT hm_T36 := by decide +kernel
theorem hm_cm36 : hm_chkM hm_T36 = true := by decide +kernel
set_option maxRecDepth 100000 in
theorem hm_ck37 : hm_okT hm_T37 := by decide +kernel
theorem hm_cm37 : hm_chkM hm_T37 = true := by decide +kernel
set_option maxRecDepth 100000 in
theorem hm_ck38 : hm_okT hm_T38 := by decide +kernel
theorem hm_cm38 : hm_chkM hm_T38 = true := by decide +kernel
set_option maxRecDepth 100000 in
theorem hm_ck39 : hm_okT hm_T39 := by decide +kernel
theorem hm_cm39 : hm_chkM hm_T39 = true := by decide +kernel
set_option maxRecDepth 100000 in
theorem hm_ck40 : hm_okT hm_T40 := by decide +kernel
theorem hm_cm40 : hm_chkM hm_T40 = true := by decide +kernel
set_option maxRecDepth 100000 in
theorem hm_ck41 : hm_okT hm_T41 := by decide +kernel
theorem hm_cm41 : hm_chkM hm_T41 = true := by decide +kernel
set_option maxRecDepth 100000 in
theorem hm_ck42 : hm_okT hm_T42 := by decide +kernel
theorem hm_cm42 : hm_chkM hm_T42 = true := by decide +kernel
set_option maxRecDepth 100000 in
theorem hm_ck43 : hm_okT hm_T43 := by decide +kernel
theorem hm_cm43 : hm_chkM hm_T43 = true := by decide +kernel
set_option maxRecDepth 100000 in
theorem hm_ck44 : hm_okT hm_T44 := by decide +kernel
theorem hm_cm44 : hm_chkM hm_T44 = true := by decide +kernel
set_option maxRecDepth 100000 in
theorem hm_ck45 : hm_okT hm_T45 := by decide +kernel
theorem hm_cm45 : hm_chkM hm_T45 = true := by decide +kernel
set_option maxRecDepth 100000 in
theorem hm_ck46 : hm_okT hm_T46 := by decide +kernel
theorem hm_cm46 : hm_chkM hm_T46 = true := by decide +kernel
set_option maxRecDepth 100000 in
theorem hm_ck47 : hm_okT hm_T47 := by decide +kernel
theorem hm_cm47 : hm_chkM hm_T47 = true := by decide +kernel
set_option maxRecDepth 100000 in
theorem hm_ck48 : hm_okT hm_T48 := by decide +kernel
theorem hm_cm48 : hm_chkM hm_T48 = true := by decide +kernel
set_option maxRecDepth 100000 in
theorem hm_ck49 : hm_okT hm_T49 := by decide +kernel
theorem hm_cm49 : hm_chkM hm_T49 = true := by decide +kernel
set_option maxRecDepth 100000 in
theorem hm_ck50 : hm_okT hm_T50 := by decide +kernel
theorem hm_cm50 : hm_chkM hm_T50 = true := by decide +kernel
set_option maxRecDepth 100000 in
theorem hm_ck51 : hm_okT hm_T51 := by decide +kernel
theorem hm_cm51 : hm_chkM hm_T51 = true := by decide +kernel
set_option maxRecDepth 100000 in
theorem hm_ck52 : hm_okT hm_T52 := by decide +kernel
theorem hm_cm52 : hm_chkM hm_T52 = true := by decide +kernel
set_option maxRecDepth 100000 in
theorem hm_ck53 : hm_okT hm_T53 := by decide +kernel
theorem hm_cm53 : hm_chkM hm_T53 = true := by decide +kernel
set_option maxRecDepth 100000 in
theorem hm_ck54 : hm_okT hm_T54 := by decide +kernel
theorem hm_cm54 : hm_chkM hm_T54 = true := by decide +kernel
set_option maxRecDepth 100000 in
theorem hm_ck55 : hm_okT hm_T55 := by decide +kernel
theorem hm_cm55 : hm_chkM hm_T55 = true := by decide +kernel
set_option maxRecDepth 100000 in
theorem hm_ck56 : hm_okT hm_T56 := by decide +kernel
theorem hm_cm56 : hm_chkM hm_T56 = true := by decide +kernel
set_option maxRecDepth 100000 in
theorem hm_ck57 : hm_okT hm_T57 := by decide +kernel
theorem hm_cm57 : hm_chkM hm_T57 = true := by decide +kernel
set_option maxRecDepth 100000 in
theorem hm_ck58 : hm_okT hm_T58 := by decide +kernel
theorem hm_cm58 : hm_chkM hm_T58 = true := by decide +kernel
set_option maxRecDepth 100000 in
theorem hm_ck59 : hm_okT hm_T59 := by decide +kernel
theorem hm_cm59 : hm_chkM hm_T59 = true := by decide +kernel
set_option maxRecDepth 100000 in
theorem hm_ck60 : hm_okT hm_T60 := by decide +kernel
theorem hm_cm60 : hm_chkM hm_T60 = true := by decide +kernel
set_option maxRecDepth 100000 in
theorem hm_ck61 : hm_okT hm_T61 := by decide +kernel
theorem hm_cm61 : hm_chkM hm_T61 = true := by decide +kernel
set_option maxRecDepth 100000 in
theorem hm_ck62 : hm_okT hm_T62 := by decide +kernel
theorem hm_cm62 : hm_chkM hm_T62 = true := by decide +kernel
set_option maxRecDepth 100000 in
theorem hm_ck63 : hm_okT hm_T63 := by decide +kernel
theorem hm_cm63 : hm_chkM hm_T63 = true := by decide +kernel
set_option maxRecDepth 100000 in
theorem hm_ck64 : hm_okT hm_T64 := by decide +kernel
theorem hm_cm64 : hm_chkM hm_T64 = true := by decide +kernel
set_option maxRecDepth 100000 in
theorem hm_ck65 : hm_okT hm_T65 := by decide +kernel
theorem hm_cm65 : hm_chkM hm_T65 = true := by decide +kernel
set_option maxRecDepth 100000 in
theorem hm_ck66 : hm_okT hm_T66 := by decide +kernel
theorem hm_cm66 : hm_chkM hm_T66 = true := by decide +kernel
set_option maxRecDepth 100000 in
theorem hm_ck67 : hm_okT hm_T67 := by decide +kernel
theorem hm_cm67 : hm_chkM hm_T67 = true := by decide +kernel
end
section
set_option maxRecDepth 100000 in
theorem hm_ck68 : hm_okT hm_T68 := by decide +kernel
theorem hm_cm68 : hm_chkM hm_T68 = true := by decide +kernel
set_option maxRecDepth 100000 in
theorem hm_ck69 : hm_okT hm_T69 := by decide +kernel
theorem hm_cm69 : hm_chkM hm_T69 = true := by decide +kernel
set_option maxRecDepth 100000 in
theorem hm_ck70 : hm_okT hm_T70 := by decide +kernel
theorem hm_cm70 : hm_chkM hm_T70 = true := by decide +kernel
set_option maxRecDepth 100000 in
theorem hm_ck71 : hm_okT hm_T71 := by decide +kernel
theorem hm_cm71 : hm_chkM hm_T71 = true := by decide +kernel
set_option maxRecDepth 100000 in
theorem hm_ck72 : hm_okT hm_T72 := by decide +kernel
theorem hm_cm72 : hm_chkM hm_T72 = true := by decide +kernel
set_option maxRecDepth 100000 in
theorem hm_ck73 : hm_okT hm_T73 := by decide +kernel
theorem hm_cm73 : hm_chkM hm_T73 = true := by decide +kernel
set_option maxRecDepth 100000 in
theorem hm_ck74 : hm_okT hm_T74 := by decide +kernel
theorem hm_cm74 : hm_chkM hm_T74 = true := by decide +kernel
set_option maxRecDepth 100000 in
theorem hm_ck75 : hm_okT hm_T75 := by decide +kernel
theorem hm_cm75 : hm_chkM hm_T75 = true := by decide +kernel
set_option maxRecDepth 100000 in
theorem hm_ck76 : hm_okT hm_T76 := by decide +kernel
theorem hm_cm76 : hm_chkM hm_T76 = true := by decide +kernel
set_option maxRecDepth 100000 in
theorem hm_ck77 : hm_okT hm_T77 := by decide +kernel
theorem hm_cm77 : hm_chkM hm_T77 = true := by decide +kernel
set_option maxRecDepth 100000 in
theorem hm_ck78 : hm_okT hm_T78 := by decide +kernel
theorem hm_cm78 : hm_chkM hm_T78 = true := by decide +kernel
set_option maxRecDepth 100000 in
theorem hm_ck79 : hm_okT hm_T79 := by decide +kernel
theorem hm_cm79 : hm_chkM hm_T79 = true := by decide +kernel
set_option maxRecDepth 100000 in
theorem hm_ck80 : hm_okT hm_T80 := by decide +kernel
theorem hm_cm80 : hm_chkM hm_T80 = true := by decide +kernel
set_option maxRecDepth 100000 in
theorem hm_ck81 : hm_okT hm_T81 := by decide +kernel
theorem hm_cm81 : hm_chkM hm_T81 = true := by decide +kernel
set_option maxRecDepth 100000 in
theorem hm_ck82 : hm_okT hm_T82 := by decide +kernel
theorem hm_cm82 : hm_chkM hm_T82 = true := by decide +kernel
set_option maxRecDepth 100000 in
theorem hm_ck83 : hm_okT hm_T83 := by decide +kernel
theorem hm_cm83 : hm_chkM hm_T83 = true := by decide +kernel
set_option maxRecDepth 100000 in
theorem hm_ck84 : hm_okT hm_T84 := by decide +kernel
theorem hm_cm84 : hm_chkM hm_T84 = true := by decide +kernel
set_option maxRecDepth 100000 in
theorem hm_ck85 : hm_okT hm_T85 := by decide +kernel
theorem hm_cm85 : hm_chkM hm_T85 = true := by decide +kernel
set_option maxRecDepth 100000 in
theorem hm_ck86 : hm_okT hm_T86 := by decide +kernel
theorem hm_cm86 : hm_chkM hm_T86 = true := by decide +kernel
set_option maxRecDepth 100000 in
theorem hm_ck87 : hm_okT hm_T87 := by decide +kernel
theorem hm_cm87 : hm_chkM hm_T87 = true := by decide +kernel
set_option maxRecDepth 100000 in
theorem hm_ck88 : hm_okT hm_T88 := by decide +kernel
theorem hm_cm88 : hm_chkM hm_T88 = true := by decide +kernel
set_option maxRecDepth 100000 in
theorem hm_ck89 : hm_okT hm_T89 := by decide +kernel
theorem hm_cm89 : hm_chkM hm_T89 = true := by decide +kernel
set_option maxRecDepth 100000 in
theorem hm_ck90 : hm_okT hm_T90 := by decide +kernel
theorem hm_cm90 : hm_chkM hm_T90 = true := by decide +kernel
set_option maxRecDepth 100000 in
theorem hm_ck91 : hm_okT hm_T91 := by decide +kernel
theorem hm_cm91 : hm_chkM hm_T91 = true := by decide +kernel
set_option maxRecDepth 100000 in
theorem hm_ck92 : hm_okT hm_T92 := by decide +kernel
theorem hm_cm92 : hm_chkM hm_T92 = true := by decide +kernel
set_option maxRecDepth 100000 in
theorem hm_ck93 : hm_okT hm_T93 := by decide +kernel
theorem hm_cm93 : hm_chkM hm_T93 = true := by decide +kernel
set_option maxRecDepth 100000 in
theorem hm_ck94 : hm_okT hm_T94 := by decide +kernel
theorem hm_cm94 : hm_chkM hm_T94 = true := by decide +kernel
set_option maxRecDepth 100000 in
theorem hm_ck95 : hm_okT hm_T95 := by decide +kernel
theorem hm_cm95 : hm_chkM hm_T95 = true := by decide +kernel
set_option maxRecDepth 100000 in
theorem hm_ck96 : hm_okT hm_T96 := by decide +kernel
theorem hm_cm96 : hm_chkM hm_T96 = true := by decide +kernel
set_option maxRecDepth 100000 in
theorem hm_ck97 : hm_okT hm_T97 := by decide +kernel
theorem hm_cm97 : hm_chkM hm_T97 = true := by decide +kernel
set_option maxRecDepth 100000 in
theorem hm_ck98 : hm_okT hm_T98 := by decide +kernel
theorem hm_cm98 : hm_chkM hm_T98 = true := by decide +kernel
set_option maxRecDepth 100000 in
theorem hm_ck99 : hm_okT hm_T99 := by decide +kernel
theorem hm_cm99 : hm_chkM hm_T99 = true := by decide +kernel
set_option maxRecDepth 100000 in
theorem hm_ck100 : hm_okT hm_T100 := by decide +kernel
theorem hm_cm100 : hm_chkM hm_T100 = true := by decide +kernel
set_option maxRecDepth 100000 in
theorem hm_ck101 : hm_okT hm_T101 := by decide +kernel
theorem hm_cm101 : hm_chkM hm_T101 = true := by decide +kernel
set_option maxRecDepth 100000 in
theorem hm_ck102 : hm_okT hm_T102 := by decide +kernel
theorem hm_cm102 : hm_chkM hm_T102 = true := by decide +kernel
set_option maxRecDepth 100000 in
theorem hm_ck103 : hm_okT hm_T103 := by decide +kernel
theorem hm_cm103 : hm_chkM hm_T103 = true := by decide +kernel
set_option maxRecDepth 100000 in
theorem hm_ck104 : hm_okT hm_T104 := by decide +kernel
theorem hm_cm104 : hm_chkM hm_T104 = true := by decide +kernel
set_option maxRecDepth 100000 in
theorem hm_ck105 : hm_okT hm_T105 := by decide +kernel
theorem hm_cm105 : hm_chkM hm_T105 = true := by decide +kernel
end
section
set_option maxRecDepth 100000 in
theorem hm_ck106 : hm_okT hm_T106 := by decide +kernel
theorem hm_cm106 : hm_chkM hm_T106 = true := by decide +kernel
set_option maxRecDepth 100000 in
theorem hm_ck107 : hm_okT hm_T107 := by decide +kernel
theorem hm_cm107 : hm_chkM hm_T107 = true := by decide +kernel
set_option maxRecDepth 100000 in
theorem hm_ck108 : hm_okT hm_T108 := by decide +kernel
theorem hm_cm108 : hm_chkM hm_T108 = true := by decide +kernel
set_option maxRecDepth 100000 in
theorem hm_ck109 : hm_okT hm_T109 := by decide +kernel
theorem hm_cm109 : hm_chkM hm_T109 = true := by decide +kernel
set_option maxRecDepth 100000 in
theorem hm_ck110 : hm_okT hm_T110 := by decide +kernel
theorem hm_cm110 : hm_chkM hm_T110 = true := by decide +kernel
set_option maxRecDepth 100000 in
theorem hm_ck111 : hm_okT hm_T111 := by decide +kernel
theorem hm_cm111 : hm_chkM hm_T111 = true := by decide +kernel
set_option maxRecDepth 100000 in
theorem hm_ck112 : hm_okT hm_T112 := by decide +kernel
theorem hm_cm112 : hm_chkM hm_T112 = true := by decide +kernel
set_option maxRecDepth 100000 in
theorem hm_ck113 : hm_okT hm_T113 := by decide +kernel
theorem hm_cm113 : hm_chkM hm_T113 = true := by decide +kernel
set_option maxRecDepth 100000 in
theorem hm_ck114 : hm_okT hm_T114 := by decide +kernel
theorem hm_cm114 : hm_chkM hm_T114 = true := by decide +kernel
set_option maxRecDepth 100000 in
theorem hm_ck115 : hm_okT hm_T115 := by decide +kernel
theorem hm_cm115 : hm_chkM hm_T115 = true := by decide +kernel
set_option maxRecDepth 100000 in
theorem hm_ck116 : hm_okT hm_T116 := by decide +kernel
theorem hm_cm116 : hm_chkM hm_T116 = true := by decide +kernel
set_option maxRecDepth 100000 in
theorem hm_ck117 : hm_okT hm_T117 := by decide +kernel
theorem hm_cm117 : hm_chkM hm_T117 = true := by decide +kernel
set_option maxRecDepth 100000 in
theorem hm_ck118 : hm_okT hm_T118 := by decide +kernel
theorem hm_cm118 : hm_chkM hm_T118 = true := by decide +kernel
set_option maxRecDepth 100000 in
theorem hm_ck119 : hm_okT hm_T119 := by decide +kernel
theorem hm_cm119 : hm_chkM hm_T119 = true := by decide +kernel
set_option maxRecDepth 100000 in
theorem hm_ck120 : hm_okT hm_T120 := by decide +kernel
theorem hm_cm120 : hm_chkM hm_T120 = true := by decide +kernel
set_option maxRecDepth 100000 in
theorem hm_ck121 : hm_okT hm_T121 := by decide +kernel
theorem hm_cm121 : hm_chkM hm_T121 = true := by decide +kernel
set_option maxRecDepth 100000 in
theorem hm_ck122 : hm_okT hm_T122 := by decide +kernel
theorem hm_cm122 : hm_chkM hm_T122 = true := by decide +kernel
set_option maxRecDepth 100000 in
theorem hm_ck123 : hm_okT hm_T123 := by decide +kernel
theorem hm_cm123 : hm_chkM hm_T123 = true := by decide +kernel
set_option maxRecDepth 100000 in
theorem hm_ck124 : hm_okT hm_T124 := by decide +kernel
theorem hm_cm124 : hm_chkM hm_T124 = true := by decide +kernel
set_option maxRecDepth 100000 in
theorem hm_ck125 : hm_okT hm_T125 := by decide +kernel
theorem hm_cm125 : hm_chkM hm_T125 = true := by decide +kernel
set_option maxRecDepth 100000 in
theorem hm_ck126 : hm_okT hm_T126 := by decide +kernel
theorem hm_cm126 : hm_chkM hm_T126 = true := by decide +kernel
set_option maxRecDepth 100000 in
theorem hm_ck127 : hm_okT hm_T127 := by decide +kernel
theorem hm_cm127 : hm_chkM hm_T127 = true := by decide +kernel
set_option maxRecDepth 100000 in
theorem hm_ck128 : hm_okT hm_T128 := by decide +kernel
theorem hm_cm128 : hm_chkM hm_T128 = true := by decide +kernel
set_option maxRecDepth 100000 in
theorem hm_ck129 : hm_okT hm_T129 := by decide +kernel
theorem hm_cm129 : hm_chkM hm_T129 = true := by decide +kernel
set_option maxRecDepth 100000 in
theorem hm_ck130 : hm_okT hm_T130 := by decide +kernel
theorem hm_cm130 : hm_chkM hm_T130 = true := by decide +kernel
set_option maxRecDepth 100000 in
theorem hm_ck131 : hm_okT hm_T131 := by decide +kernel
theorem hm_cm131 : hm_chkM hm_T131 = true := by decide +kernel
set_option maxRecDepth 100000 in
theorem hm_ck132 : hm_okT hm_T132 := by decide +kernel
theorem hm_cm132 : hm_chkM hm_T132 = true := by decide +kernel
set_option maxRecDepth 100000 in
theorem hm_ck133 : hm_okT hm_T133 := by decide +kernel
theorem hm_cm133 : hm_chkM hm_T133 = true := by decide +kernel
set_option maxRecDepth 100000 in
theorem hm_ck134 : hm_okT hm_T134 := by decide +kernel
theorem hm_cm134 : hm_chkM hm_T134 = true := by decide +kernel
set_option maxRecDepth 100000 in
theorem hm_ck135 : hm_okT hm_T135 := by decide +kernel
theorem hm_cm135 : hm_chkM hm_T135 = true := by decide +kernel
set_option maxRecDepth 100000 in
theorem hm_ck136 : hm_okT hm_T136 := by decide +kernel
theorem hm_cm136 : hm_chkM hm_T136 = true := by decide +kernel
set_option maxRecDepth 100000 in
theorem hm_ck137 : hm_okT hm_T137 := by decide +kernel
theorem hm_cm137 : hm_chkM hm_T137 = true := by decide +kernel
set_option maxRecDepth 100000 in
theorem hm_ck138 : hm_okT hm_T138 := by decide +kernel
theorem hm_cm138 : hm_chkM hm_T138 = true := by decide +kernel
set_option maxRecDepth 100000 in
theorem hm_ck139 : hm_okT hm_T139 := by decide +kernel
theorem hm_cm139 : hm_chkM hm_T139 = true := by decide +kernel
set_option maxRecDepth 100000 in
theorem hm_ck140 : hm_okT hm_T140 := by decide +kernel
theorem hm_cm140 : hm_chkM hm_T140 = true := by decide +kernel
set_option maxRecDepth 100000 in
theorem hm_ck141 : hm_okT hm_T141 := by decide +kernel
theorem hm_cm141 : hm_chkM hm_T141 = true := by decide +kernel
set_option maxRecDepth 100000 in
theorem hm_ck142 : hm_okT hm_T142 := by decide +kernel
theorem hm_cm142 : hm_chkM hm_T142 = true := by decide +kernel
set_option maxRecDepth 100000 in
theorem hm_ck143 : hm_okT hm_T143 := by decide +kernel
theorem hm_cm143 : hm_chkM hm_T143 = true := by decide +kernel
set_option maxRecDepth 100000 in
theorem hm_ck144 : hm_okT hm_T144 := by decide +kernel
theorem hm_cm144 : hm_chkM hm_T144 = true := by decide +kernel
end
section
set_option maxRecDepth 100000 in
theorem hm_ck145 : hm_okT hm_T145 := by decide +kernel
theorem hm_cm145 : hm_chkM hm_T145 = true := by decide +kernel
set_option maxRecDepth 100000 in
theorem hm_ck146 : hm_okT hm_T146 := by decide +kernel
theorem hm_cm146 : hm_chkM hm_T146 = true := by decide +kernel
set_option maxRecDepth 100000 in
theorem hm_ck147 : hm_okT hm_T147 := by decide +kernel
theorem hm_cm147 : hm_chkM hm_T147 = true := by decide +kernel
set_option maxRecDepth 100000 in
theorem hm_ck148 : hm_okT hm_T148 := by decide +kernel
theorem hm_cm148 : hm_chkM hm_T148 = true := by decide +kernel
set_option maxRecDepth 100000 in
theorem hm_ck149 : hm_okT hm_T149 := by decide +kernel
theorem hm_cm149 : hm_chkM hm_T149 = true := by decide +kernel
set_option maxRecDepth 100000 in
theorem hm_ck150 : hm_okT hm_T150 := by decide +kernel
theorem hm_cm150 : hm_chkM hm_T150 = true := by decide +kernel
set_option maxRecDepth 100000 in
theorem hm_ck151 : hm_okT hm_T151 := by decide +kernel
theorem hm_cm151 : hm_chkM hm_T151 = true := by decide +kernel
set_option maxRecDepth 100000 in
theorem hm_ck152 : hm_okT hm_T152 := by decide +kernel
theorem hm_cm152 : hm_chkM hm_T152 = true := by decide +kernel
set_option maxRecDepth 100000 in
theorem hm_ck153 : hm_okT hm_T153 := by decide +kernel
theorem hm_cm153 : hm_chkM hm_T153 = true := by decide +kernel
set_option maxRecDepth 100000 in
theorem hm_ck154 : hm_okT hm_T154 := by decide +kernel
theorem hm_cm154 : hm_chkM hm_T154 = true := by decide +kernel
set_option maxRecDepth 100000 in
theorem hm_ck155 : hm_okT hm_T155 := by decide +kernel
theorem hm_cm155 : hm_chkM hm_T155 = true := by decide +kernel
set_option maxRecDepth 100000 in
theorem hm_ck156 : hm_okT hm_T156 := by decide +kernel
theorem hm_cm156 : hm_chkM hm_T156 = true := by decide +kernel
set_option maxRecDepth 100000 in
theorem hm_ck157 : hm_okT hm_T157 := by decide +kernel
theorem hm_cm157 : hm_chkM hm_T157 = true := by decide +kernel
set_option maxRecDepth 100000 in
theorem hm_ck158 : hm_okT hm_T158 := by decide +kernel
theorem hm_cm158 : hm_chkM hm_T158 = true := by decide +kernel
set_option maxRecDepth 100000 in
theorem hm_ck159 : hm_okT hm_T159 := by decide +kernel
theorem hm_cm159 : hm_chkM hm_T159 = true := by decide +kernel
set_option maxRecDepth 100000 in
theorem hm_ck160 : hm_okT hm_T160 := by decide +kernel
theorem hm_cm160 : hm_chkM hm_T160 = true := by decide +kernel
set_option maxRecDepth 100000 in
theorem hm_ck161 : hm_okT hm_T161 := by decide +kernel
theorem hm_cm161 : hm_chkM hm_T161 = true := by decide +kernel
set_option maxRecDepth 100000 in
theorem hm_ck162 : hm_okT hm_T162 := by decide +kernel
theorem hm_cm162 : hm_chkM hm_T162 = true := by decide +kernel
set_option maxRecDepth 100000 in
theorem hm_ck163 : hm_okT hm_T163 := by decide +kernel
theorem hm_cm163 : hm_chkM hm_T163 = true := by decide +kernel
set_option maxRecDepth 100000 in
theorem hm_ck164 : hm_okT hm_T164 := by decide +kernel
theorem hm_cm164 : hm_chkM hm_T164 = true := by decide +kernel
set_option maxRecDepth 100000 in
theorem hm_ck165 : hm_okT hm_T165 := by decide +kernel
theorem hm_cm165 : hm_chkM hm_T165 = true := by decide +kernel
set_option maxRecDepth 100000 in
theorem hm_ck166 : hm_okT hm_T166 := by decide +kernel
theorem hm_cm166 : hm_chkM hm_T166 = true := by decide +kernel
set_option maxRecDepth 100000 in
theorem hm_ck167 : hm_okT hm_T167 := by decide +kernel
theorem hm_cm167 : hm_chkM hm_T167 = true := by decide +kernel
set_option maxRecDepth 100000 in
theorem hm_ck168 : hm_okT hm_T168 := by decide +kernel
theorem hm_cm168 : hm_chkM hm_T168 = true := by decide +kernel
set_option maxRecDepth 100000 in
theorem hm_ck169 : hm_okT hm_T169 := by decide +kernel
theorem hm_cm169 : hm_chkM hm_T169 = true := by decide +kernel
end
section
set_option maxRecDepth 100000 in
theorem hm_ck170 : hm_okT hm_T170 := by decide +kernel
theorem hm_cm170 : hm_chkM hm_T170 = true := by decide +kernel
set_option maxRecDepth 100000 in
theorem hm_ck171 : hm_okT hm_T171 := by decide +kernel
theorem hm_cm171 : hm_chkM hm_T171 = true := by decide +kernel
set_option maxRecDepth 100000 in
theorem hm_ck172 : hm_okT hm_T172 := by decide +kernel
theorem hm_cm172 : hm_chkM hm_T172 = true := by decide +kernel
set_option maxRecDepth 100000 in
theorem hm_ck173 : hm_okT hm_T173 := by decide +kernel
theorem hm_cm173 : hm_chkM hm_T173 = true := by decide +kernel
set_option maxRecDepth 100000 in
theorem hm_ck174 : hm_okT hm_T174 := by decide +kernel
theorem hm_cm174 : hm_chkM hm_T174 = true := by decide +kernel
set_option maxRecDepth 100000 in
theorem hm_ck175 : hm_okT hm_T175 := by decide +kernel
theorem hm_cm175 : hm_chkM hm_T175 = true := by decide +kernel
set_option maxRecDepth 100000 in
theorem hm_ck176 : hm_okT hm_T176 := by decide +kernel
theorem hm_cm176 : hm_chkM hm_T176 = true := by decide +kernel
set_option maxRecDepth 100000 in
theorem hm_ck177 : hm_okT hm_T177 := by decide +kernel
theorem hm_cm177 : hm_chkM hm_T177 = true := by decide +kernel
set_option maxRecDepth 100000 in
theorem hm_ck178 : hm_okT hm_T178 := by decide +kernel
theorem hm_cm178 : hm_chkM hm_T178 = true := by decide +kernel
set_option maxRecDepth 100000 in
theorem hm_ck179 : hm_okT hm_T179 := by decide +kernel
theorem hm_cm179 : hm_chkM hm_T179 = true := by decide +kernel
set_option maxRecDepth 100000 in
theorem hm_ck180 : hm_okT hm_T180 := by decide +kernel
theorem hm_cm180 : hm_chkM hm_T180 = true := by decide +kernel
set_option maxRecDepth 100000 in
theorem hm_ck181 : hm_okT hm_T181 := by decide +kernel
theorem hm_cm181 : hm_chkM hm_T181 = true := by decide +kernel
set_option maxRecDepth 100000 in
theorem hm_ck182 : hm_okT hm_T182 := by decide +kernel
theorem hm_cm182 : hm_chkM hm_T182 = true := by decide +kernel
set_option maxRecDepth 100000 in
theorem hm_ck183 : hm_okT hm_T183 := by decide +kernel
theorem hm_cm183 : hm_chkM hm_T183 = true := by decide +kernel
set_option maxRecDepth 100000 in
theorem hm_ck184 : hm_okT hm_T184 := by decide +kernel
theorem hm_cm184 : hm_chkM hm_T184 = true := by decide +kernel
set_option maxRecDepth 100000 in
theorem hm_ck185 : hm_okT hm_T185 := by decide +kernel
theorem hm_cm185 : hm_chkM hm_T185 = true := by decide +kernel
set_option maxRecDepth 100000 in
theorem hm_ck186 : hm_okT hm_T186 := by decide +kernel
theorem hm_cm186 : hm_chkM hm_T186 = true := by decide +kernel
set_option maxRecDepth 100000 in
theorem hm_ck187 : hm_okT hm_T187 := by decide +kernel
theorem hm_cm187 : hm_chkM hm_T187 = true := by decide +kernel
set_option maxRecDepth 100000 in
theorem hm_ck188 : hm_okT hm_T188 := by decide +kernel
theorem hm_cm188 : hm_chkM hm_T188 = true := by decide +kernel
set_option maxRecDepth 100000 in
theorem hm_ck189 : hm_okT hm_T189 := by decide +kernel
theorem hm_cm189 : hm_chkM hm_T189 = true := by decide +kernel
end
section
set_option maxRecDepth 100000 in
theorem hm_ck190 : hm_okT hm_T190 := by decide +kernel
theorem hm_cm190 : hm_chkM hm_T190 = true := by decide +kernel
set_option maxRecDepth 100000 in
theorem hm_ck191 : hm_okT hm_T191 := by decide +kernel
theorem hm_cm191 : hm_chkM hm_T191 = true := by decide +kernel
set_option maxRecDepth 100000 in
theorem hm_ck192 : hm_okT hm_T192 := by decide +kernel
theorem hm_cm192 : hm_chkM hm_T192 = true := by decide +kernel
set_option maxRecDepth 100000 in
theorem hm_ck193 : hm_okT hm_T193 := by decide +kernel
theorem hm_cm193 : hm_chkM hm_T193 = true := by decide +kernel
set_option maxRecDepth 100000 in
theorem hm_ck194 : hm_okT hm_T194 := by decide +kernel
theorem hm_cm194 : hm_chkM hm_T194 = true := by decide +kernel
set_option maxRecDepth 100000 in
theorem hm_ck195 : hm_okT hm_T195 := by decide +kernel
theorem hm_cm195 : hm_chkM hm_T195 = true := by decide +kernel
set_option maxRecDepth 100000 in
theorem hm_ck196 : hm_okT hm_T196 := by decide +kernel
theorem hm_cm196 : hm_chkM hm_T196 = true := by decide +kernel
set_option maxRecDepth 100000 in
theorem hm_ck197 : hm_okT hm_T197 := by decide +kernel
theorem hm_cm197 : hm_chkM hm_T197 = true := by decide +kernel
set_option maxRecDepth 100000 in
theorem hm_ck198 : hm_okT hm_T198 := by decide +kernel
theorem hm_cm198 : hm_chkM hm_T198 = true := by decide +kernel
set_option maxRecDepth 100000 in
theorem hm_ck199 : hm_okT hm_T199 := by decide +kernel
theorem hm_cm199 : hm_chkM hm_T199 = true := by decide +kernel
set_option maxRecDepth 100000 in
theorem hm_ck200 : hm_okT hm_T200 := by decide +kernel
theorem hm_cm200 : hm_chkM hm_T200 = true := by decide +kernel
set_option maxRecDepth 100000 in
theorem hm_ck201 : hm_okT hm_T201 := by decide +kernel
theorem hm_cm201 : hm_chkM hm_T201 = true := by decide +kernel
set_option maxRecDepth 100000 in
theorem hm_ck202 : hm_okT hm_T202 := by decide +kernel
theorem hm_cm202 : hm_chkM hm_T202 = true := by decide +kernel
set_option maxRecDepth 100000 in
theorem hm_ck203 : hm_okT hm_T203 := by decide +kernel
theorem hm_cm203 : hm_chkM hm_T203 = true := by decide +kernel
set_option maxRecDepth 100000 in
theorem hm_ck204 : hm_okT hm_T204 := by decide +kernel
theorem hm_cm204 : hm_chkM hm_T204 = true := by decide +kernel
set_option maxRecDepth 100000 in
theorem hm_ck205 : hm_okT hm_T205 := by decide +kernel
theorem hm_cm205 : hm_chkM hm_T205 = true := by decide +kernel
set_option maxRecDepth 100000 in
theorem hm_ck206 : hm_okT hm_T206 := by decide +kernel
theorem hm_cm206 : hm_chkM hm_T206 = true := by decide +kernel
set_option maxRecDepth 100000 in
theorem hm_ck207 : hm_okT hm_T207 := by decide +kernel
theorem hm_cm207 : hm_chkM hm_T207 = true := by decide +kernel
end
section
set_option maxRecDepth 100000 in
theorem hm_ckL0 : ((hm_P208.drop 0).take 60).all (hm_chkI hm_tb RL code (some .boolean)) = true := by decide +kernel
set_option maxRecDepth 100000 in
theorem hm_ckL1 : ((hm_P208.drop 60).take 60).all (hm_chkI hm_tb RL code (some .boolean)) = true := by decide +kernel
set_option maxRecDepth 100000 in
theorem hm_ckL2 : ((hm_P208.drop 120).take 60).all (hm_chkI hm_tb RL code (some .boolean)) = true := by decide +kernel
set_option maxRecDepth 100000 in
theorem hm_ckL3 : ((hm_P208.drop 180).take 60).all (hm_chkI hm_tb RL code (some .boolean)) = true := by decide +kernel
set_option maxRecDepth 100000 in
theorem hm_ckL4 : ((hm_P208.drop 240).take 60).all (hm_chkI hm_tb RL code (some .boolean)) = true := by decide +kernel
end
section
set_option maxRecDepth 100000 in
theorem hm_ckL5 : ((hm_P208.drop 300).take 60).all (hm_chkI hm_tb RL code (some .boolean)) = true := by decide +kernel
set_option maxRecDepth 100000 in
theorem hm_ckL6 : ((hm_P208.drop 360).take 60).all (hm_chkI hm_tb RL code (some .boolean)) = true := by decide +kernel
set_option maxRecDepth 100000 in
theorem hm_ckL7 : ((hm_P208.drop 420).take 60).all (hm_chkI hm_tb RL code (some .boolean)) = true := by decide +kernel
set_option maxRecDepth 100000 in
theorem hm_ckL8 : ((hm_P208.drop 480).take 60).all (hm_chkI hm_tb RL code (some .boolean)) = true := by decide +kernel
set_option maxRecDepth 100000 in
theorem hm_ckL9 : ((hm_P208.drop 540).take 60).all (hm_chkI hm_tb RL code (some .boolean)) = true := by decide +kernel
end
section
set_option maxRecDepth 100000 in
theorem hm_ckL10 : ((hm_P208.drop 600).take 60).all (hm_chkI hm_tb RL code (some .boolean)) = true := by decide +kernel
set_option maxRecDepth 100000 in
theorem hm_ckL11 : ((hm_P208.drop 660).take 60).all (hm_chkI hm_tb RL code (some .boolean)) = true := by decide +kernel
set_option maxRecDepth 100000 in
theorem hm_ckL12 : ((hm_P208.drop 720).take 60).all (hm_chkI hm_tb RL code (some .boolean)) = true := by decide +kernel
set_option maxRecDepth 100000 in
theorem hm_ckL13 : ((hm_P208.drop 780).take 60).all (hm_chkI hm_tb RL code (some .boolean)) = true := by decide +kernel
set_option maxRecDepth 100000 in
theorem hm_ckL14 : ((hm_P208.drop 840).take 60).all (hm_chkI hm_tb RL code (some .boolean)) = true := by decide +kernel
theorem hm_chunk {α : Type} (f : α → Bool) (l : List α) (n : Nat) (h1 : (l.take n).all f = true) (h2 : (l.drop n).all f = true) : l.all f = true := by
  rw [← List.take_append_drop n l, List.all_append, h1, h2]; rfl
theorem hm_ck208 : hm_okT hm_T208 := by
  refine hm_chunk _ _ 60 ?_ ?_
  · exact hm_ckL0
  refine hm_chunk _ _ 60 ?_ ?_
  · exact hm_ckL1
  rw [List.drop_drop]
  refine hm_chunk _ _ 60 ?_ ?_
  · exact hm_ckL2
  rw [List.drop_drop]
  refine hm_chunk _ _ 60 ?_ ?_
  · exact hm_ckL3
  rw [List.drop_drop]
  refine hm_chunk _ _ 60 ?_ ?_
  · exact hm_ckL4
  rw [List.drop_drop]
  refine hm_chunk _ _ 60 ?_ ?_
  · exact hm_ckL5
  rw [List.drop_drop]
  refine hm_chunk _ _ 60 ?_ ?_
  · exact hm_ckL6
  rw [List.drop_drop]
  refine hm_chunk _ _ 60 ?_ ?_
  · exact hm_ckL7
  rw [List.drop_drop]
  refine hm_chunk _ _ 60 ?_ ?_
  · exact hm_ckL8
  rw [List.drop_drop]
  refine hm_chunk _ _ 60 ?_ ?_
  · exact hm_ckL9
  rw [List.drop_drop]
  refine hm_chunk _ _ 60 ?_ ?_
  · exact hm_ckL10
  rw [List.drop_drop]
  refine hm_chunk _ _ 60 ?_ ?_
  · exact hm_ckL11
  rw [List.drop_drop]
  refine hm_chunk _ _ 60 ?_ ?_
  · exact hm_ckL12
  rw [List.drop_drop]
  refine hm_chunk _ _ 60 ?_ ?_
  · exact hm_ckL13
  rw [List.drop_drop]
  refine hm_chunk _ _ 60 ?_ ?_
  · exact hm_ckL14
  · rw [List.drop_drop]; exact (by decide +kernel)
end
section
set_option maxRecDepth 100000 in
theorem hm_kAll : ∀ t ∈ hm_tab, hm_okT t := by
  show ∀ t ∈ hm_tabM ++ [hm_T208], hm_okT t
  unfold hm_tabM
  exact List.forall_mem_cons.mpr ⟨hm_ck0, List.forall_mem_cons.mpr ⟨hm_ck1, List.forall_mem_cons.mpr ⟨hm_ck2, List.forall_mem_cons.mpr ⟨hm_ck3, List.forall_mem_cons.mpr ⟨hm_ck4, List.forall_mem_cons.mpr ⟨hm_ck5, List.forall_mem_cons.mpr ⟨hm_ck6, List.forall_mem_cons.mpr ⟨hm_ck7, List.forall_mem_cons.mpr ⟨hm_ck8, List.forall_mem_cons.mpr ⟨hm_ck9, List.forall_mem_cons.mpr ⟨hm_ck10, List.forall_mem_cons.mpr ⟨hm_ck11, List.forall_mem_cons.mpr ⟨hm_ck12, List.forall_mem_cons.mpr ⟨hm_ck13, List.forall_mem_cons.mpr ⟨hm_ck14, List.forall_mem_cons.mpr ⟨hm_ck15, List.forall_mem_cons.mpr ⟨hm_ck16, List.forall_mem_cons.mpr ⟨hm_ck17, List.forall_mem_cons.mpr ⟨hm_ck18, List.forall_mem_cons.mpr ⟨hm_ck19, List.forall_mem_cons.mpr ⟨hm_ck20, List.forall_mem_cons.mpr ⟨hm_ck21, List.forall_mem_cons.mpr ⟨hm_ck22, List.forall_mem_cons.mpr ⟨hm_ck23, List.forall_mem_cons.mpr ⟨hm_ck24, List.forall_mem_cons.mpr ⟨hm_ck25, List.forall_mem_cons.mpr ⟨hm_ck26, List.forall_mem_cons.mpr ⟨hm_ck27, List.forall_mem_cons.mpr ⟨hm_ck28, List.forall_mem_cons.mpr ⟨hm_ck29, List.forall_mem_cons.mpr ⟨hm_ck30, List.forall_mem_cons.mpr ⟨hm_ck31, List.forall_mem_cons.mpr ⟨hm_ck32, List.forall_mem_cons.mpr ⟨hm_ck33, List.forall_mem_cons.mpr ⟨hm_ck34, List.forall_mem_cons.mpr ⟨hm_ck35, List.forall_mem_cons.mpr ⟨hm_ck36, List.forall_mem_cons.mpr ⟨hm_ck37, List.forall_mem_cons.mpr ⟨hm_ck38, List.forall_mem_cons.mpr ⟨hm_ck39, List.forall_mem_cons.mpr ⟨hm_ck40, List.forall_mem_cons.mpr ⟨hm_ck41, List.forall_mem_cons.mpr ⟨hm_ck42, List.forall_mem_cons.mpr ⟨hm_ck43, List.forall_mem_cons.mpr ⟨hm_ck44, List.forall_mem_cons.mpr ⟨hm_ck45, List.forall_mem_cons.mpr ⟨hm_ck46, List.forall_mem_cons.mpr ⟨hm_ck47, List.forall_mem_cons.mpr ⟨hm_ck48, List.forall_mem_cons.mpr ⟨hm_ck49, List.forall_mem_cons.mpr ⟨hm_ck50, List.forall_mem_cons.mpr ⟨hm_ck51, List.forall_mem_cons.mpr ⟨hm_ck52, List.forall_mem_cons.mpr ⟨hm_ck53, List.forall_mem_cons.mpr ⟨hm_ck54, List.forall_mem_cons.mpr ⟨hm_ck55, List.forall_mem_cons.mpr ⟨hm_ck56, List.forall_mem_cons.mpr ⟨hm_ck57, List.forall_mem_cons.mpr ⟨hm_ck58, List.forall_mem_cons.mpr ⟨hm_ck59, List.forall_mem_cons.mpr ⟨hm_ck60, List.forall_mem_cons.mpr ⟨hm_ck61, List.forall_mem_cons.mpr ⟨hm_ck62, List.forall_mem_cons.mpr ⟨hm_ck63, List.forall_mem_cons.mpr ⟨hm_ck64, List.forall_mem_cons.mpr ⟨hm_ck65, List.forall_mem_cons.mpr ⟨hm_ck66, List.forall_mem_cons.mpr ⟨hm_ck67, List.forall_mem_cons.mpr ⟨hm_ck68, List.forall_mem_cons.mpr ⟨hm_ck69, List.forall_mem_cons.mpr ⟨hm_ck70, List.forall_mem_cons.mpr ⟨hm_ck71, List.forall_mem_cons.mpr ⟨hm_ck72, List.forall_mem_cons.mpr ⟨hm_ck73, List.forall_mem_cons.mpr ⟨hm_ck74, List.forall_mem_cons.mpr ⟨hm_ck75, List.forall_mem_cons.mpr ⟨hm_ck76, List.forall_mem_cons.mpr ⟨hm_ck77, List.forall_mem_cons.mpr ⟨hm_ck78, List.forall_mem_cons.mpr ⟨hm_ck79, List.forall_mem_cons.mpr ⟨hm_ck80, List.forall_mem_cons.mpr ⟨hm_ck81, List.forall_mem_cons.mpr ⟨hm_ck82, List.forall_mem_cons.mpr ⟨hm_ck83, List.forall_mem_cons.mpr ⟨hm_ck84, List.forall_mem_cons.mpr ⟨hm_ck85, List.forall_mem_cons.mpr ⟨hm_ck86, List.forall_mem_cons.mpr ⟨hm_ck87, List.forall_mem_cons.mpr ⟨hm_ck88, List.forall_mem_cons.mpr ⟨hm_ck89, List.forall_mem_cons.mpr ⟨hm_ck90, List.forall_mem_cons.mpr ⟨hm_ck91, List.forall_mem_cons.mpr ⟨hm_ck92, List.forall_mem_cons.mpr ⟨hm_ck93, List.forall_mem_cons.mpr ⟨hm_ck94, List.forall_mem_cons.mpr ⟨hm_ck95, List.forall_mem_cons.mpr ⟨hm_ck96, List.forall_mem_cons.mpr ⟨hm_ck97, List.forall_mem_cons.mpr ⟨hm_ck98, List.forall_mem_cons.mpr ⟨hm_ck99, List.forall_mem_cons.mpr ⟨hm_ck100, List.forall_mem_cons.mpr ⟨hm_ck101, List.forall_mem_cons.mpr ⟨hm_ck102, List.forall_mem_cons.mpr ⟨hm_ck103, List.forall_mem_cons.mpr ⟨hm_ck104, List.forall_mem_cons.mpr ⟨hm_ck105, List.forall_mem_cons.mpr ⟨hm_ck106, List.forall_mem_cons.mpr ⟨hm_ck107, List.forall_mem_cons.mpr ⟨hm_ck108, List.forall_mem_cons.mpr ⟨hm_ck109, List.forall_mem_cons.mpr ⟨hm_ck110, List.forall_mem_cons.mpr ⟨hm_ck111, List.forall_mem_cons.mpr ⟨hm_ck112, List.forall_mem_cons.mpr ⟨hm_ck113, List.forall_mem_cons.mpr ⟨hm_ck114, List.forall_mem_cons.mpr ⟨hm_ck115, List.forall_mem_cons.mpr ⟨hm_ck116, List.forall_mem_cons.mpr ⟨hm_ck117, List.forall_mem_cons.mpr ⟨hm_ck118, List.forall_mem_cons.mpr ⟨hm_ck119, List.forall_mem_cons.mpr ⟨hm_ck120, List.forall_mem_cons.mpr ⟨hm_ck121, List.forall_mem_cons.mpr ⟨hm_ck122, List.forall_mem_cons.mpr ⟨hm_ck123, List.forall_mem_cons.mpr ⟨hm_ck124, List.forall_mem_cons.mpr ⟨hm_ck125, List.forall_mem_cons.mpr ⟨hm_ck126, List.forall_mem_cons.mpr ⟨hm_ck127, List.forall_mem_cons.mpr ⟨hm_ck128, List.forall_mem_cons.mpr ⟨hm_ck129, List.forall_mem_cons.mpr ⟨hm_ck130, List.forall_mem_cons.mpr ⟨hm_ck131, List.forall_mem_cons.mpr ⟨hm_ck132, List.forall_mem_cons.mpr ⟨hm_ck133, List.forall_mem_cons.mpr ⟨hm_ck134, List.forall_mem_cons.mpr ⟨hm_ck135, List.forall_mem_cons.mpr ⟨hm_ck136, List.forall_mem_cons.mpr ⟨hm_ck137, List.forall_mem_cons.mpr ⟨hm_ck138, List.forall_mem_cons.mpr ⟨hm_ck139, List.forall_mem_cons.mpr ⟨hm_ck140, List.forall_mem_cons.mpr ⟨hm_ck141, List.forall_mem_cons.mpr ⟨hm_ck142, List.forall_mem_cons.mpr ⟨hm_ck143, List.forall_mem_cons.mpr ⟨hm_ck144, List.forall_mem_cons.mpr ⟨hm_ck145, List.forall_mem_cons.mpr ⟨hm_ck146, List.forall_mem_cons.mpr ⟨hm_ck147, List.forall_mem_cons.mpr ⟨hm_ck148, List.forall_mem_cons.mpr ⟨hm_ck149, List.forall_mem_cons.mpr ⟨hm_ck150, List.forall_mem_cons.mpr ⟨hm_ck151, List.forall_mem_cons.mpr ⟨hm_ck152, List.forall_mem_cons.mpr ⟨hm_ck153, List.forall_mem_cons.mpr ⟨hm_ck154, List.forall_mem_cons.mpr ⟨hm_ck155, List.forall_mem_cons.mpr ⟨hm_ck156, List.forall_mem_cons.mpr ⟨hm_ck157, List.forall_mem_cons.mpr ⟨hm_ck158, List.forall_mem_cons.mpr ⟨hm_ck159, List.forall_mem_cons.mpr ⟨hm_ck160, List.forall_mem_cons.mpr ⟨hm_ck161, List.forall_mem_cons.mpr ⟨hm_ck162, List.forall_mem_cons.mpr ⟨hm_ck163, List.forall_mem_cons.mpr ⟨hm_ck164, List.forall_mem_cons.mpr ⟨hm_ck165, List.forall_mem_cons.mpr ⟨hm_ck166, List.forall_mem_cons.mpr ⟨hm_ck167, List.forall_mem_cons.mpr ⟨hm_ck168, List.forall_mem_cons.mpr ⟨hm_ck169, List.forall_mem_cons.mpr ⟨hm_ck170, List.forall_mem_cons.mpr ⟨hm_ck171, List.forall_mem_cons.mpr ⟨hm_ck172, List.forall_mem_cons.mpr ⟨hm_ck173, List.forall_mem_cons.mpr ⟨hm_ck174, List.forall_mem_cons.mpr ⟨hm_ck175, List.forall_mem_cons.mpr ⟨hm_ck176, List.forall_mem_cons.mpr ⟨hm_ck177, List.forall_mem_cons.mpr ⟨hm_ck178, List.forall_mem_cons.mpr ⟨hm_ck179, List.forall_mem_cons.mpr ⟨hm_ck180, List.forall_mem_cons.mpr ⟨hm_ck181, List.forall_mem_cons.mpr ⟨hm_ck182, List.forall_mem_cons.mpr ⟨hm_ck183, List.forall_mem_cons.mpr ⟨hm_ck184, List.forall_mem_cons.mpr ⟨hm_ck185, List.forall_mem_cons.mpr ⟨hm_ck186, List.forall_mem_cons.mpr ⟨hm_ck187, List.forall_mem_cons.mpr ⟨hm_ck188, List.forall_mem_cons.mpr ⟨hm_ck189, List.forall_mem_cons.mpr ⟨hm_ck190, List.forall_mem_cons.mpr ⟨hm_ck191, List.forall_mem_cons.mpr ⟨hm_ck192, List.forall_mem_cons.mpr ⟨hm_ck193, List.forall_mem_cons.mpr ⟨hm_ck194, List.forall_mem_cons.mpr ⟨hm_ck195, List.forall_mem_cons.mpr ⟨hm_ck196, List.forall_mem_cons.mpr ⟨hm_ck197, List.forall_mem_cons.mpr ⟨hm_ck198, List.forall_mem_cons.mpr ⟨hm_ck199, List.forall_mem_cons.mpr ⟨hm_ck200, List.forall_mem_cons.mpr ⟨hm_ck201, List.forall_mem_cons.mpr ⟨hm_ck202, List.forall_mem_cons.mpr ⟨hm_ck203, List.forall_mem_cons.mpr ⟨hm_ck204, List.forall_mem_cons.mpr ⟨hm_ck205, List.forall_mem_cons.mpr ⟨hm_ck206, List.forall_mem_cons.mpr ⟨hm_ck207, List.forall_mem_cons.mpr ⟨hm_ck208, fun _ h => absurd h List.not_mem_nil⟩⟩⟩⟩⟩⟩⟩⟩⟩⟩⟩⟩⟩⟩⟩⟩⟩⟩⟩⟩⟩⟩⟩⟩⟩⟩⟩⟩⟩⟩⟩⟩⟩⟩⟩⟩⟩⟩⟩⟩⟩⟩⟩⟩⟩⟩⟩⟩⟩⟩⟩⟩⟩⟩⟩⟩⟩⟩⟩⟩⟩⟩⟩⟩⟩⟩⟩⟩⟩⟩⟩⟩⟩⟩⟩⟩⟩⟩⟩⟩⟩⟩⟩⟩⟩⟩⟩⟩⟩⟩⟩⟩⟩⟩⟩⟩⟩⟩⟩⟩⟩⟩⟩⟩⟩⟩⟩⟩⟩⟩⟩⟩⟩⟩⟩⟩⟩⟩⟩⟩⟩⟩⟩⟩⟩⟩⟩⟩⟩⟩⟩⟩⟩⟩⟩⟩⟩⟩⟩⟩⟩⟩⟩⟩⟩⟩⟩⟩⟩⟩⟩⟩⟩⟩⟩⟩⟩⟩⟩⟩⟩⟩⟩⟩⟩⟩⟩⟩⟩⟩⟩⟩⟩⟩⟩⟩⟩⟩⟩⟩⟩⟩⟩⟩⟩⟩⟩⟩⟩⟩⟩⟩⟩⟩⟩⟩⟩⟩⟩⟩⟩⟩⟩⟩⟩⟩⟩⟩⟩
set_option maxRecDepth 100000 in
theorem hm_mAll : ∀ t ∈ hm_tabM, hm_chkM t = true := by
  unfold hm_tabM
  exact List.forall_mem_cons.mpr ⟨hm_cm0, List.forall_mem_cons.mpr ⟨hm_cm1, List.forall_mem_cons.mpr ⟨hm_cm2, List.forall_mem_cons.mpr ⟨hm_cm3, List.forall_mem_cons.mpr ⟨hm_cm4, List.forall_mem_cons.mpr ⟨hm_cm5, List.forall_mem_cons.mpr ⟨hm_cm6, List.forall_mem_cons.mpr ⟨hm_cm7, List.forall_mem_cons.mpr ⟨hm_cm8, List.forall_mem_cons.mpr ⟨hm_cm9, List.forall_mem_cons.mpr ⟨hm_cm10, List.forall_mem_cons.mpr ⟨hm_cm11, List.forall_mem_cons.mpr ⟨hm_cm12, List.forall_mem_cons.mpr ⟨hm_cm13, List.forall_mem_cons.mpr ⟨hm_cm14, List.forall_mem_cons.mpr ⟨hm_cm15, List.forall_mem_cons.mpr ⟨hm_cm16, List.forall_mem_cons.mpr ⟨hm_cm17, List.forall_mem_cons.mpr ⟨hm_cm18, List.forall_mem_cons.mpr ⟨hm_cm19, List.forall_mem_cons.mpr ⟨hm_cm20, List.forall_mem_cons.mpr ⟨hm_cm21, List.forall_mem_cons.mpr ⟨hm_cm22, List.forall_mem_cons.mpr ⟨hm_cm23, List.forall_mem_cons.mpr ⟨hm_cm24, List.forall_mem_cons.mpr ⟨hm_cm25, List.forall_mem_cons.mpr ⟨hm_cm26, List.forall_mem_cons.mpr ⟨hm_cm27, List.forall_mem_cons.mpr ⟨hm_cm28, List.forall_mem_cons.mpr ⟨hm_cm29, List.forall_mem_cons.mpr ⟨hm_cm30, List.forall_mem_cons.mpr ⟨hm_cm31, List.forall_mem_cons.mpr ⟨hm_cm32, List.forall_mem_cons.mpr ⟨hm_cm33, List.forall_mem_cons.mpr ⟨hm_cm34, List.forall_mem_cons.mpr ⟨hm_cm35, List.forall_mem_cons.mpr ⟨hm_cm36, List.forall_mem_cons.mpr ⟨hm_cm37, List.forall_mem_cons.mpr ⟨hm_cm38, List.forall_mem_cons.mpr ⟨hm_cm39, List.forall_mem_cons.mpr ⟨hm_cm40, List.forall_mem_cons.mpr ⟨hm_cm41, List.forall_mem_cons.mpr ⟨hm_cm42, List.forall_mem_cons.mpr ⟨hm_cm43, List.forall_mem_cons.mpr ⟨hm_cm44, List.forall_mem_cons.mpr ⟨hm_cm45, List.forall_mem_cons.mpr ⟨hm_cm46, List.forall_mem_cons.mpr ⟨hm_cm47, List.forall_mem_cons.mpr ⟨hm_cm48, List.forall_mem_cons.mpr ⟨hm_cm49, List.forall_mem_cons.mpr ⟨hm_cm50, List.forall_mem_cons.mpr ⟨hm_cm51, List.forall_mem_cons.mpr ⟨hm_cm52, List.forall_mem_cons.mpr ⟨hm_cm53, List.forall_mem_cons.mpr ⟨hm_cm54, List.forall_mem_cons.mpr ⟨hm_cm55, List.forall_mem_cons.mpr ⟨hm_cm56, List.forall_mem_cons.mpr ⟨hm_cm57, List.forall_mem_cons.mpr ⟨hm_cm58, List.forall_mem_cons.mpr ⟨hm_cm59, List.forall_mem_cons.mpr ⟨hm_cm60, List.forall_mem_cons.mpr ⟨hm_cm61, List.forall_mem_cons.mpr ⟨hm_cm62, List.forall_mem_cons.mpr ⟨hm_cm63, List.forall_mem_cons.mpr ⟨hm_cm64, List.forall_mem_cons.mpr ⟨hm_cm65, List.forall_mem_cons.mpr ⟨hm_cm66, List.forall_mem_cons.mpr ⟨hm_cm67, List.forall_mem_cons.mpr ⟨hm_cm68, List.forall_mem_cons.mpr ⟨hm_cm69, List.forall_mem_cons.mpr ⟨hm_cm70, List.forall_mem_cons.mpr ⟨hm_cm71, List.forall_mem_cons.mpr ⟨hm_cm72, List.forall_mem_cons.mpr ⟨hm_cm73, List.forall_mem_cons.mpr ⟨hm_cm74, List.forall_mem_cons.mpr ⟨hm_cm75, List.forall_mem_cons.mpr ⟨hm_cm76, List.forall_mem_cons.mpr ⟨hm_cm77, List.forall_mem_cons.mpr ⟨hm_cm78, List.forall_mem_cons.mpr ⟨hm_cm79, List.forall_mem_cons.mpr ⟨hm_cm80, List.forall_mem_cons.mpr ⟨hm_cm81, List.forall_mem_cons.mpr ⟨hm_cm82, List.forall_mem_cons.mpr ⟨hm_cm83, List.forall_mem_cons.mpr ⟨hm_cm84, List.forall_mem_cons.mpr ⟨hm_cm85, List.forall_mem_cons.mpr ⟨hm_cm86, List.forall_mem_cons.mpr ⟨hm_cm87, List.forall_mem_cons.mpr ⟨hm_cm88, List.forall_mem_cons.mpr ⟨hm_cm89, List.forall_mem_cons.mpr ⟨hm_cm90, List.forall_mem_cons.mpr ⟨hm_cm91, List.forall_mem_cons.mpr ⟨hm_cm92, List.forall_mem_cons.mpr ⟨hm_cm93, List.forall_mem_cons.mpr ⟨hm_cm94, List.forall_mem_cons.mpr ⟨hm_cm95, List.forall_mem_cons.mpr ⟨hm_cm96, List.forall_mem_cons.mpr ⟨hm_cm97, List.forall_mem_cons.mpr ⟨hm_cm98, List.forall_mem_cons.mpr ⟨hm_cm99, List.forall_mem_cons.mpr ⟨hm_cm100, List.forall_mem_cons.mpr ⟨hm_cm101, List.forall_mem_cons.mpr ⟨hm_cm102, List.forall_mem_cons.mpr ⟨hm_cm103, List.forall_mem_cons.mpr ⟨hm_cm104, List.forall_mem_cons.mpr ⟨hm_cm105, List.forall_mem_cons.mpr ⟨hm_cm106, List.forall_mem_cons.mpr ⟨hm_cm107, List.forall_mem_cons.mpr ⟨hm_cm108, List.forall_mem_cons.mpr ⟨hm_cm109, List.forall_mem_cons.mpr ⟨hm_cm110, List.forall_mem_cons.mpr ⟨hm_cm111, List.forall_mem_cons.mpr ⟨hm_cm112, List.forall_mem_cons.mpr ⟨hm_cm113, List.forall_mem_cons.mpr ⟨hm_cm114, List.forall_mem_cons.mpr ⟨hm_cm115, List.forall_mem_cons.mpr ⟨hm_cm116, List.forall_mem_cons.mpr ⟨hm_cm117, List.forall_mem_cons.mpr ⟨hm_cm118, List.forall_mem_cons.mpr ⟨hm_cm119, List.forall_mem_cons.mpr ⟨hm_cm120, List.forall_mem_cons.mpr ⟨hm_cm121, List.forall_mem_cons.mpr ⟨hm_cm122, List.forall_mem_cons.mpr ⟨hm_cm123, List.forall_mem_cons.mpr ⟨hm_cm124, List.forall_mem_cons.mpr ⟨hm_cm125, List.forall_mem_cons.mpr ⟨hm_cm126, List.forall_mem_cons.mpr ⟨hm_cm127, List.forall_mem_cons.mpr ⟨hm_cm128, List.forall_mem_cons.mpr ⟨hm_cm129, List.forall_mem_cons.mpr ⟨hm_cm130, List.forall_mem_cons.mpr ⟨hm_cm131, List.forall_mem_cons.mpr ⟨hm_cm132, List.forall_mem_cons.mpr ⟨hm_cm133, List.forall_mem_cons.mpr ⟨hm_cm134, List.forall_mem_cons.mpr ⟨hm_cm135, List.forall_mem_cons.mpr ⟨hm_cm136, List.forall_mem_cons.mpr ⟨hm_cm137, List.forall_mem_cons.mpr ⟨hm_cm138, List.forall_mem_cons.mpr ⟨hm_cm139, List.forall_mem_cons.mpr ⟨hm_cm140, List.forall_mem_cons.mpr ⟨hm_cm141, List.forall_mem_cons.mpr ⟨hm_cm142, List.forall_mem_cons.mpr ⟨hm_cm143, List.forall_mem_cons.mpr ⟨hm_cm144, List.forall_mem_cons.mpr ⟨hm_cm145, List.forall_mem_cons.mpr ⟨hm_cm146, List.forall_mem_cons.mpr ⟨hm_cm147, List.forall_mem_cons.mpr ⟨hm_cm148, List.forall_mem_cons.mpr ⟨hm_cm149, List.forall_mem_cons.mpr ⟨hm_cm150, List.forall_mem_cons.mpr ⟨hm_cm151, List.forall_mem_cons.mpr ⟨hm_cm152, List.forall_mem_cons.mpr ⟨hm_cm153, List.forall_mem_cons.mpr ⟨hm_cm154, List.forall_mem_cons.mpr ⟨hm_cm155, List.forall_mem_cons.mpr ⟨hm_cm156, List.forall_mem_cons.mpr ⟨hm_cm157, List.forall_mem_cons.mpr ⟨hm_cm158, List.forall_mem_cons.mpr ⟨hm_cm159, List.forall_mem_cons.mpr ⟨hm_cm160, List.forall_mem_cons.mpr ⟨hm_cm161, List.forall_mem_cons.mpr ⟨hm_cm162, List.forall_mem_cons.mpr ⟨hm_cm163, List.forall_mem_cons.mpr ⟨hm_cm164, List.forall_mem_cons.mpr ⟨hm_cm165, List.forall_mem_cons.mpr ⟨hm_cm166, List.forall_mem_cons.mpr ⟨hm_cm167, List.forall_mem_cons.mpr ⟨hm_cm168, List.forall_mem_cons.mpr ⟨hm_cm169, List.forall_mem_cons.mpr ⟨hm_cm170, List.forall_mem_cons.mpr ⟨hm_cm171, List.forall_mem_cons.mpr ⟨hm_cm172, List.forall_mem_cons.mpr ⟨hm_cm173, List.forall_mem_cons.mpr ⟨hm_cm174, List.forall_mem_cons.mpr ⟨hm_cm175, List.forall_mem_cons.mpr ⟨hm_cm176, List.forall_mem_cons.mpr ⟨hm_cm177, List.forall_mem_cons.mpr ⟨hm_cm178, List.forall_mem_cons.mpr ⟨hm_cm179, List.forall_mem_cons.mpr ⟨hm_cm180, List.forall_mem_cons.mpr ⟨hm_cm181, List.forall_mem_cons.mpr ⟨hm_cm182, List.forall_mem_cons.mpr ⟨hm_cm183, List.forall_mem_cons.mpr ⟨hm_cm184, List.forall_mem_cons.mpr ⟨hm_cm185, List.forall_mem_cons.mpr ⟨hm_cm186, List.forall_mem_cons.mpr ⟨hm_cm187, List.forall_mem_cons.mpr ⟨hm_cm188, List.forall_mem_cons.mpr ⟨hm_cm189, List.forall_mem_cons.mpr ⟨hm_cm190, List.forall_mem_cons.mpr ⟨hm_cm191, List.forall_mem_cons.mpr ⟨hm_cm192, List.forall_mem_cons.mpr ⟨hm_cm193, List.forall_mem_cons.mpr ⟨hm_cm194, List.forall_mem_cons.mpr ⟨hm_cm195, List.forall_mem_cons.mpr ⟨hm_cm196, List.forall_mem_cons.mpr ⟨hm_cm197, List.forall_mem_cons.mpr ⟨hm_cm198, List.forall_mem_cons.mpr ⟨hm_cm199, List.forall_mem_cons.mpr ⟨hm_cm200, List.forall_mem_cons.mpr ⟨hm_cm201, List.forall_mem_cons.mpr ⟨hm_cm202, List.forall_mem_cons.mpr ⟨hm_cm203, List.forall_mem_cons.mpr ⟨hm_cm204, List.forall_mem_cons.mpr ⟨hm_cm205, List.forall_mem_cons.mpr ⟨hm_cm206, List.forall_mem_cons.mpr ⟨hm_cm207, fun _ h => absurd h List.not_mem_nil⟩⟩⟩⟩⟩⟩⟩⟩⟩⟩⟩⟩⟩⟩⟩⟩⟩⟩⟩⟩⟩⟩⟩⟩⟩⟩⟩⟩⟩⟩⟩⟩⟩⟩⟩⟩⟩⟩⟩⟩⟩⟩⟩⟩⟩⟩⟩⟩⟩⟩⟩⟩⟩⟩⟩⟩⟩⟩⟩⟩⟩⟩⟩⟩⟩⟩⟩⟩⟩⟩⟩⟩⟩⟩⟩⟩⟩⟩⟩⟩⟩⟩⟩⟩⟩⟩⟩⟩⟩⟩⟩⟩⟩⟩⟩⟩⟩⟩⟩⟩⟩⟩⟩⟩⟩⟩⟩⟩⟩⟩⟩⟩⟩⟩⟩⟩⟩⟩⟩⟩⟩⟩⟩⟩⟩⟩⟩⟩⟩⟩⟩⟩⟩⟩⟩⟩⟩⟩⟩⟩⟩⟩⟩⟩⟩⟩⟩⟩⟩⟩⟩⟩⟩⟩⟩⟩⟩⟩⟩⟩⟩⟩⟩⟩⟩⟩⟩⟩⟩⟩⟩⟩⟩⟩⟩⟩⟩⟩⟩⟩⟩⟩⟩⟩⟩⟩⟩⟩⟩⟩⟩⟩⟩⟩⟩⟩⟩⟩⟩⟩⟩⟩⟩⟩⟩⟩⟩⟩
end
