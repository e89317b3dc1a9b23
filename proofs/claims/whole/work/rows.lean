section
-- ===== PART A: goes FIRST, ahead of the names: the tables' words, and 'selects' of the private methods out of them =====
/-- a private method of a class that the tables say can be made, by its rows of tables_1 -/
def lw_okq (q : MethodName × Nat) : Prop := (q.1.cls ≠ "java/lang/invoke/MethodHandle" ∧ q.1.cls ≠ "java/lang/invoke/VarHandle") ∧ Cond.instantiable q.1.cls q.2 ∈ tables_1 ∧ Cond.privateMethod q.1 ∈ tables_1 ∧ Cond.instanceMethod q.1 ∈ tables_1
theorem lw_p0 : lw_okq (⟨"LateLetters$Text", "fits", "(I)Z"⟩, 2) := ⟨⟨by decide +kernel, by decide +kernel⟩, List.mem_of_getElem? (i := 90) (by decide +kernel), List.mem_of_getElem? (i := 231) (by decide +kernel), List.mem_of_getElem? (i := 232) (by decide +kernel)⟩
theorem lw_p1 : lw_okq (⟨"LateLetters$Text", "fitsInHead", "(I)Z"⟩, 2) := ⟨⟨by decide +kernel, by decide +kernel⟩, List.mem_of_getElem? (i := 90) (by decide +kernel), List.mem_of_getElem? (i := 235) (by decide +kernel), List.mem_of_getElem? (i := 236) (by decide +kernel)⟩
theorem lw_p2 : lw_okq (⟨"LateLetters$Text", "isFigure", "(III)Z"⟩, 2) := ⟨⟨by decide +kernel, by decide +kernel⟩, List.mem_of_getElem? (i := 90) (by decide +kernel), List.mem_of_getElem? (i := 239) (by decide +kernel), List.mem_of_getElem? (i := 240) (by decide +kernel)⟩
theorem lw_p3 : lw_okq (⟨"LateLetters$Text", "figureAt", "(I)I"⟩, 2) := ⟨⟨by decide +kernel, by decide +kernel⟩, List.mem_of_getElem? (i := 90) (by decide +kernel), List.mem_of_getElem? (i := 243) (by decide +kernel), List.mem_of_getElem? (i := 244) (by decide +kernel)⟩
theorem lw_p4 : lw_okq (⟨"LateLetters$Text", "planStart", "()I"⟩, 2) := ⟨⟨by decide +kernel, by decide +kernel⟩, List.mem_of_getElem? (i := 90) (by decide +kernel), List.mem_of_getElem? (i := 250) (by decide +kernel), List.mem_of_getElem? (i := 251) (by decide +kernel)⟩
theorem lw_p5 : lw_okq (⟨"LateLetters$Text", "wholeLength", "()I"⟩, 2) := ⟨⟨by decide +kernel, by decide +kernel⟩, List.mem_of_getElem? (i := 90) (by decide +kernel), List.mem_of_getElem? (i := 254) (by decide +kernel), List.mem_of_getElem? (i := 255) (by decide +kernel)⟩
theorem lw_p6 : lw_okq (⟨"LateLetters$Text", "fitsInPlan", "(II)Z"⟩, 2) := ⟨⟨by decide +kernel, by decide +kernel⟩, List.mem_of_getElem? (i := 90) (by decide +kernel), List.mem_of_getElem? (i := 258) (by decide +kernel), List.mem_of_getElem? (i := 259) (by decide +kernel)⟩
theorem lw_p7 : lw_okq (⟨"LateLetters$Text", "stands", "(III)Z"⟩, 2) := ⟨⟨by decide +kernel, by decide +kernel⟩, List.mem_of_getElem? (i := 90) (by decide +kernel), List.mem_of_getElem? (i := 262) (by decide +kernel), List.mem_of_getElem? (i := 263) (by decide +kernel)⟩
theorem lw_p8 : lw_okq (⟨"LateLetters$Times", "send", "(LLateLetters$Telling;II)I"⟩, 2) := ⟨⟨by decide +kernel, by decide +kernel⟩, List.mem_of_getElem? (i := 53) (by decide +kernel), List.mem_of_getElem? (i := 317) (by decide +kernel), List.mem_of_getElem? (i := 318) (by decide +kernel)⟩
theorem lw_p9 : lw_okq (⟨"LateLetters", "lastIfQuick", "()I"⟩, 11) := ⟨⟨by decide +kernel, by decide +kernel⟩, List.mem_of_getElem? (i := 16) (by decide +kernel), List.mem_of_getElem? (i := 348) (by decide +kernel), List.mem_of_getElem? (i := 349) (by decide +kernel)⟩
theorem lw_p10 : lw_okq (⟨"LateLetters$Tellers", "begin", "(LLateLetters$Telling;)V"⟩, 2) := ⟨⟨by decide +kernel, by decide +kernel⟩, List.mem_of_getElem? (i := 66) (by decide +kernel), List.mem_of_getElem? (i := 363) (by decide +kernel), List.mem_of_getElem? (i := 364) (by decide +kernel)⟩
theorem lw_p11 : lw_okq (⟨"LateLetters$Tellers", "soonest", "(LLateLetters$Telling;)I"⟩, 2) := ⟨⟨by decide +kernel, by decide +kernel⟩, List.mem_of_getElem? (i := 66) (by decide +kernel), List.mem_of_getElem? (i := 374) (by decide +kernel), List.mem_of_getElem? (i := 375) (by decide +kernel)⟩
theorem lw_p12 : lw_okq (⟨"LateLetters$Tellers", "isKnower", "(I)Z"⟩, 2) := ⟨⟨by decide +kernel, by decide +kernel⟩, List.mem_of_getElem? (i := 66) (by decide +kernel), List.mem_of_getElem? (i := 378) (by decide +kernel), List.mem_of_getElem? (i := 379) (by decide +kernel)⟩
theorem lw_p13 : lw_okq (⟨"LateLetters$Tellers", "leastDelayed", "(LLateLetters$Telling;)I"⟩, 2) := ⟨⟨by decide +kernel, by decide +kernel⟩, List.mem_of_getElem? (i := 66) (by decide +kernel), List.mem_of_getElem? (i := 383) (by decide +kernel), List.mem_of_getElem? (i := 384) (by decide +kernel)⟩
theorem lw_p14 : lw_okq (⟨"LateLetters$Tellers", "tell", "(LLateLetters$Telling;II)V"⟩, 2) := ⟨⟨by decide +kernel, by decide +kernel⟩, List.mem_of_getElem? (i := 66) (by decide +kernel), List.mem_of_getElem? (i := 391) (by decide +kernel), List.mem_of_getElem? (i := 392) (by decide +kernel)⟩
theorem lw_p15 : lw_okq (⟨"LateLetters$Tellers", "leastLastFrom", "(LLateLetters$Telling;II)I"⟩, 2) := ⟨⟨by decide +kernel, by decide +kernel⟩, List.mem_of_getElem? (i := 66) (by decide +kernel), List.mem_of_getElem? (i := 400) (by decide +kernel), List.mem_of_getElem? (i := 401) (by decide +kernel)⟩
def lw_privs_1 : List (MethodName × Nat) := [(⟨"LateLetters$Text", "fits", "(I)Z"⟩, 2), (⟨"LateLetters$Text", "fitsInHead", "(I)Z"⟩, 2), (⟨"LateLetters$Text", "isFigure", "(III)Z"⟩, 2), (⟨"LateLetters$Text", "figureAt", "(I)I"⟩, 2), (⟨"LateLetters$Text", "planStart", "()I"⟩, 2), (⟨"LateLetters$Text", "wholeLength", "()I"⟩, 2), (⟨"LateLetters$Text", "fitsInPlan", "(II)Z"⟩, 2), (⟨"LateLetters$Text", "stands", "(III)Z"⟩, 2), (⟨"LateLetters$Times", "send", "(LLateLetters$Telling;II)I"⟩, 2), (⟨"LateLetters", "lastIfQuick", "()I"⟩, 11), (⟨"LateLetters$Tellers", "begin", "(LLateLetters$Telling;)V"⟩, 2), (⟨"LateLetters$Tellers", "soonest", "(LLateLetters$Telling;)I"⟩, 2), (⟨"LateLetters$Tellers", "isKnower", "(I)Z"⟩, 2), (⟨"LateLetters$Tellers", "leastDelayed", "(LLateLetters$Telling;)I"⟩, 2), (⟨"LateLetters$Tellers", "tell", "(LLateLetters$Telling;II)V"⟩, 2), (⟨"LateLetters$Tellers", "leastLastFrom", "(LLateLetters$Telling;II)I"⟩, 2)]
theorem lw_r1 : ∀ q ∈ lw_privs_1, lw_okq q := List.forall_mem_cons.mpr ⟨lw_p0, List.forall_mem_cons.mpr ⟨lw_p1, List.forall_mem_cons.mpr ⟨lw_p2, List.forall_mem_cons.mpr ⟨lw_p3, List.forall_mem_cons.mpr ⟨lw_p4, List.forall_mem_cons.mpr ⟨lw_p5, List.forall_mem_cons.mpr ⟨lw_p6, List.forall_mem_cons.mpr ⟨lw_p7, List.forall_mem_cons.mpr ⟨lw_p8, List.forall_mem_cons.mpr ⟨lw_p9, List.forall_mem_cons.mpr ⟨lw_p10, List.forall_mem_cons.mpr ⟨lw_p11, List.forall_mem_cons.mpr ⟨lw_p12, List.forall_mem_cons.mpr ⟨lw_p13, List.forall_mem_cons.mpr ⟨lw_p14, List.forall_mem_cons.mpr ⟨lw_p15, fun _ h => absurd h List.not_mem_nil⟩⟩⟩⟩⟩⟩⟩⟩⟩⟩⟩⟩⟩⟩⟩⟩
theorem lw_p16 : lw_okq (⟨"LateLetters$Tellers", "takeBack", "(LLateLetters$Telling;II)V"⟩, 2) := ⟨⟨by decide +kernel, by decide +kernel⟩, List.mem_of_getElem? (i := 66) (by decide +kernel), List.mem_of_getElem? (i := 407) (by decide +kernel), List.mem_of_getElem? (i := 408) (by decide +kernel)⟩
theorem lw_p17 : lw_okq (⟨"LateLetters", "slackOf", "(I)I"⟩, 11) := ⟨⟨by decide +kernel, by decide +kernel⟩, List.mem_of_getElem? (i := 16) (by decide +kernel), List.mem_of_getElem? (i := 441) (by decide +kernel), List.mem_of_getElem? (i := 442) (by decide +kernel)⟩
theorem lw_p18 : lw_okq (⟨"LateLetters", "gatheredFrom", "(I)I"⟩, 11) := ⟨⟨by decide +kernel, by decide +kernel⟩, List.mem_of_getElem? (i := 16) (by decide +kernel), List.mem_of_getElem? (i := 446) (by decide +kernel), List.mem_of_getElem? (i := 447) (by decide +kernel)⟩
theorem lw_p19 : lw_okq (⟨"LateLetters$Shelf", "placeAt", "(I)LLateLetters$Telling;"⟩, 1) := ⟨⟨by decide +kernel, by decide +kernel⟩, List.mem_of_getElem? (i := 109) (by decide +kernel), List.mem_of_getElem? (i := 492) (by decide +kernel), List.mem_of_getElem? (i := 493) (by decide +kernel)⟩
theorem lw_p20 : lw_okq (⟨"LateLetters$Telling", "sendBehindAll", "(I)V"⟩, 7) := ⟨⟨by decide +kernel, by decide +kernel⟩, List.mem_of_getElem? (i := 24) (by decide +kernel), List.mem_of_getElem? (i := 502) (by decide +kernel), List.mem_of_getElem? (i := 503) (by decide +kernel)⟩
theorem lw_p21 : lw_okq (⟨"LateLetters", "readDoings", "(IJ)Z"⟩, 11) := ⟨⟨by decide +kernel, by decide +kernel⟩, List.mem_of_getElem? (i := 16) (by decide +kernel), List.mem_of_getElem? (i := 576) (by decide +kernel), List.mem_of_getElem? (i := 577) (by decide +kernel)⟩
theorem lw_p22 : lw_okq (⟨"LateLetters", "canBe", "(III)Z"⟩, 11) := ⟨⟨by decide +kernel, by decide +kernel⟩, List.mem_of_getElem? (i := 16) (by decide +kernel), List.mem_of_getElem? (i := 583) (by decide +kernel), List.mem_of_getElem? (i := 584) (by decide +kernel)⟩
theorem lw_p23 : lw_okq (⟨"LateLetters", "canBeMoved", "(II)Z"⟩, 11) := ⟨⟨by decide +kernel, by decide +kernel⟩, List.mem_of_getElem? (i := 16) (by decide +kernel), List.mem_of_getElem? (i := 587) (by decide +kernel), List.mem_of_getElem? (i := 588) (by decide +kernel)⟩
theorem lw_p24 : lw_okq (⟨"LateLetters", "canBeChanged", "(I)Z"⟩, 11) := ⟨⟨by decide +kernel, by decide +kernel⟩, List.mem_of_getElem? (i := 16) (by decide +kernel), List.mem_of_getElem? (i := 591) (by decide +kernel), List.mem_of_getElem? (i := 592) (by decide +kernel)⟩
theorem lw_p25 : lw_okq (⟨"LateLetters", "canBeDelayed", "(II)Z"⟩, 11) := ⟨⟨by decide +kernel, by decide +kernel⟩, List.mem_of_getElem? (i := 16) (by decide +kernel), List.mem_of_getElem? (i := 595) (by decide +kernel), List.mem_of_getElem? (i := 596) (by decide +kernel)⟩
theorem lw_p26 : lw_okq (⟨"LateLetters", "peopleWhoseDelayMayCount", "()I"⟩, 11) := ⟨⟨by decide +kernel, by decide +kernel⟩, List.mem_of_getElem? (i := 16) (by decide +kernel), List.mem_of_getElem? (i := 631) (by decide +kernel), List.mem_of_getElem? (i := 632) (by decide +kernel)⟩
theorem lw_p27 : lw_okq (⟨"LateLetters", "lastWhenCome", "(I)I"⟩, 11) := ⟨⟨by decide +kernel, by decide +kernel⟩, List.mem_of_getElem? (i := 16) (by decide +kernel), List.mem_of_getElem? (i := 655) (by decide +kernel), List.mem_of_getElem? (i := 656) (by decide +kernel)⟩
theorem lw_p28 : lw_okq (⟨"LateLetters", "chancesFrom", "(IIII)J"⟩, 11) := ⟨⟨by decide +kernel, by decide +kernel⟩, List.mem_of_getElem? (i := 16) (by decide +kernel), List.mem_of_getElem? (i := 664) (by decide +kernel), List.mem_of_getElem? (i := 665) (by decide +kernel)⟩
theorem lw_p29 : lw_okq (⟨"LateLetters", "drawDelays", "(I)V"⟩, 11) := ⟨⟨by decide +kernel, by decide +kernel⟩, List.mem_of_getElem? (i := 16) (by decide +kernel), List.mem_of_getElem? (i := 678) (by decide +kernel), List.mem_of_getElem? (i := 679) (by decide +kernel)⟩
theorem lw_p30 : lw_okq (⟨"LateLettersModel", "readText", "()I"⟩, 25) := ⟨⟨by decide +kernel, by decide +kernel⟩, List.mem_of_getElem? (i := 700) (by decide +kernel), List.mem_of_getElem? (i := 799) (by decide +kernel), List.mem_of_getElem? (i := 800) (by decide +kernel)⟩
theorem lw_p31 : lw_okq (⟨"LateLettersModel", "takeHead", "(II)Z"⟩, 25) := ⟨⟨by decide +kernel, by decide +kernel⟩, List.mem_of_getElem? (i := 700) (by decide +kernel), List.mem_of_getElem? (i := 803) (by decide +kernel), List.mem_of_getElem? (i := 804) (by decide +kernel)⟩
def lw_privs_2 : List (MethodName × Nat) := [(⟨"LateLetters$Tellers", "takeBack", "(LLateLetters$Telling;II)V"⟩, 2), (⟨"LateLetters", "slackOf", "(I)I"⟩, 11), (⟨"LateLetters", "gatheredFrom", "(I)I"⟩, 11), (⟨"LateLetters$Shelf", "placeAt", "(I)LLateLetters$Telling;"⟩, 1), (⟨"LateLetters$Telling", "sendBehindAll", "(I)V"⟩, 7), (⟨"LateLetters", "readDoings", "(IJ)Z"⟩, 11), (⟨"LateLetters", "canBe", "(III)Z"⟩, 11), (⟨"LateLetters", "canBeMoved", "(II)Z"⟩, 11), (⟨"LateLetters", "canBeChanged", "(I)Z"⟩, 11), (⟨"LateLetters", "canBeDelayed", "(II)Z"⟩, 11), (⟨"LateLetters", "peopleWhoseDelayMayCount", "()I"⟩, 11), (⟨"LateLetters", "lastWhenCome", "(I)I"⟩, 11), (⟨"LateLetters", "chancesFrom", "(IIII)J"⟩, 11), (⟨"LateLetters", "drawDelays", "(I)V"⟩, 11), (⟨"LateLettersModel", "readText", "()I"⟩, 25), (⟨"LateLettersModel", "takeHead", "(II)Z"⟩, 25)]
theorem lw_r2 : ∀ q ∈ lw_privs_2, lw_okq q := List.forall_mem_cons.mpr ⟨lw_p16, List.forall_mem_cons.mpr ⟨lw_p17, List.forall_mem_cons.mpr ⟨lw_p18, List.forall_mem_cons.mpr ⟨lw_p19, List.forall_mem_cons.mpr ⟨lw_p20, List.forall_mem_cons.mpr ⟨lw_p21, List.forall_mem_cons.mpr ⟨lw_p22, List.forall_mem_cons.mpr ⟨lw_p23, List.forall_mem_cons.mpr ⟨lw_p24, List.forall_mem_cons.mpr ⟨lw_p25, List.forall_mem_cons.mpr ⟨lw_p26, List.forall_mem_cons.mpr ⟨lw_p27, List.forall_mem_cons.mpr ⟨lw_p28, List.forall_mem_cons.mpr ⟨lw_p29, List.forall_mem_cons.mpr ⟨lw_p30, List.forall_mem_cons.mpr ⟨lw_p31, fun _ h => absurd h List.not_mem_nil⟩⟩⟩⟩⟩⟩⟩⟩⟩⟩⟩⟩⟩⟩⟩⟩
theorem lw_p32 : lw_okq (⟨"LateLettersModel", "takePart", "(II)Z"⟩, 25) := ⟨⟨by decide +kernel, by decide +kernel⟩, List.mem_of_getElem? (i := 700) (by decide +kernel), List.mem_of_getElem? (i := 811) (by decide +kernel), List.mem_of_getElem? (i := 812) (by decide +kernel)⟩
theorem lw_p33 : lw_okq (⟨"LateLettersModel", "lastOf", "([I)I"⟩, 25) := ⟨⟨by decide +kernel, by decide +kernel⟩, List.mem_of_getElem? (i := 700) (by decide +kernel), List.mem_of_getElem? (i := 825) (by decide +kernel), List.mem_of_getElem? (i := 826) (by decide +kernel)⟩
theorem lw_p34 : lw_okq (⟨"LateLettersModel", "lastOfNews", "([II)I"⟩, 25) := ⟨⟨by decide +kernel, by decide +kernel⟩, List.mem_of_getElem? (i := 700) (by decide +kernel), List.mem_of_getElem? (i := 829) (by decide +kernel), List.mem_of_getElem? (i := 830) (by decide +kernel)⟩
theorem lw_p35 : lw_okq (⟨"LateLettersModel", "layTicks", "([I)V"⟩, 25) := ⟨⟨by decide +kernel, by decide +kernel⟩, List.mem_of_getElem? (i := 700) (by decide +kernel), List.mem_of_getElem? (i := 833) (by decide +kernel), List.mem_of_getElem? (i := 834) (by decide +kernel)⟩
theorem lw_p36 : lw_okq (⟨"LateLettersModel", "layTold", "([II)V"⟩, 25) := ⟨⟨by decide +kernel, by decide +kernel⟩, List.mem_of_getElem? (i := 700) (by decide +kernel), List.mem_of_getElem? (i := 837) (by decide +kernel), List.mem_of_getElem? (i := 838) (by decide +kernel)⟩
theorem lw_p37 : lw_okq (⟨"LateLettersModel", "quick", "([I)V"⟩, 25) := ⟨⟨by decide +kernel, by decide +kernel⟩, List.mem_of_getElem? (i := 700) (by decide +kernel), List.mem_of_getElem? (i := 845) (by decide +kernel), List.mem_of_getElem? (i := 846) (by decide +kernel)⟩
theorem lw_p38 : lw_okq (⟨"LateLettersModel", "beginOne", "()V"⟩, 25) := ⟨⟨by decide +kernel, by decide +kernel⟩, List.mem_of_getElem? (i := 700) (by decide +kernel), List.mem_of_getElem? (i := 849) (by decide +kernel), List.mem_of_getElem? (i := 850) (by decide +kernel)⟩
theorem lw_p39 : lw_okq (⟨"LateLettersModel", "soonest", "([I)I"⟩, 25) := ⟨⟨by decide +kernel, by decide +kernel⟩, List.mem_of_getElem? (i := 700) (by decide +kernel), List.mem_of_getElem? (i := 853) (by decide +kernel), List.mem_of_getElem? (i := 854) (by decide +kernel)⟩
theorem lw_p40 : lw_okq (⟨"LateLettersModel", "nextBegin", "([II)I"⟩, 25) := ⟨⟨by decide +kernel, by decide +kernel⟩, List.mem_of_getElem? (i := 700) (by decide +kernel), List.mem_of_getElem? (i := 857) (by decide +kernel), List.mem_of_getElem? (i := 858) (by decide +kernel)⟩
theorem lw_p41 : lw_okq (⟨"LateLettersModel", "quickest", "([I)I"⟩, 25) := ⟨⟨by decide +kernel, by decide +kernel⟩, List.mem_of_getElem? (i := 700) (by decide +kernel), List.mem_of_getElem? (i := 861) (by decide +kernel), List.mem_of_getElem? (i := 862) (by decide +kernel)⟩
theorem lw_p42 : lw_okq (⟨"LateLettersModel", "tell", "([III)I"⟩, 25) := ⟨⟨by decide +kernel, by decide +kernel⟩, List.mem_of_getElem? (i := 700) (by decide +kernel), List.mem_of_getElem? (i := 865) (by decide +kernel), List.mem_of_getElem? (i := 866) (by decide +kernel)⟩
theorem lw_p43 : lw_okq (⟨"LateLettersModel", "best", "()I"⟩, 25) := ⟨⟨by decide +kernel, by decide +kernel⟩, List.mem_of_getElem? (i := 700) (by decide +kernel), List.mem_of_getElem? (i := 869) (by decide +kernel), List.mem_of_getElem? (i := 870) (by decide +kernel)⟩
theorem lw_p44 : lw_okq (⟨"LateLettersModel", "lateBy", "(I)I"⟩, 25) := ⟨⟨by decide +kernel, by decide +kernel⟩, List.mem_of_getElem? (i := 700) (by decide +kernel), List.mem_of_getElem? (i := 873) (by decide +kernel), List.mem_of_getElem? (i := 874) (by decide +kernel)⟩
theorem lw_p45 : lw_okq (⟨"LateLettersModel", "isPerson", "(I)Z"⟩, 25) := ⟨⟨by decide +kernel, by decide +kernel⟩, List.mem_of_getElem? (i := 700) (by decide +kernel), List.mem_of_getElem? (i := 881) (by decide +kernel), List.mem_of_getElem? (i := 882) (by decide +kernel)⟩
theorem lw_p46 : lw_okq (⟨"LateLettersModel", "placeOf", "(I)I"⟩, 25) := ⟨⟨by decide +kernel, by decide +kernel⟩, List.mem_of_getElem? (i := 700) (by decide +kernel), List.mem_of_getElem? (i := 885) (by decide +kernel), List.mem_of_getElem? (i := 886) (by decide +kernel)⟩
theorem lw_p47 : lw_okq (⟨"LateLettersModel", "toldBy", "([II)I"⟩, 25) := ⟨⟨by decide +kernel, by decide +kernel⟩, List.mem_of_getElem? (i := 700) (by decide +kernel), List.mem_of_getElem? (i := 889) (by decide +kernel), List.mem_of_getElem? (i := 890) (by decide +kernel)⟩
def lw_privs_3 : List (MethodName × Nat) := [(⟨"LateLettersModel", "takePart", "(II)Z"⟩, 25), (⟨"LateLettersModel", "lastOf", "([I)I"⟩, 25), (⟨"LateLettersModel", "lastOfNews", "([II)I"⟩, 25), (⟨"LateLettersModel", "layTicks", "([I)V"⟩, 25), (⟨"LateLettersModel", "layTold", "([II)V"⟩, 25), (⟨"LateLettersModel", "quick", "([I)V"⟩, 25), (⟨"LateLettersModel", "beginOne", "()V"⟩, 25), (⟨"LateLettersModel", "soonest", "([I)I"⟩, 25), (⟨"LateLettersModel", "nextBegin", "([II)I"⟩, 25), (⟨"LateLettersModel", "quickest", "([I)I"⟩, 25), (⟨"LateLettersModel", "tell", "([III)I"⟩, 25), (⟨"LateLettersModel", "best", "()I"⟩, 25), (⟨"LateLettersModel", "lateBy", "(I)I"⟩, 25), (⟨"LateLettersModel", "isPerson", "(I)Z"⟩, 25), (⟨"LateLettersModel", "placeOf", "(I)I"⟩, 25), (⟨"LateLettersModel", "toldBy", "([II)I"⟩, 25)]
theorem lw_r3 : ∀ q ∈ lw_privs_3, lw_okq q := List.forall_mem_cons.mpr ⟨lw_p32, List.forall_mem_cons.mpr ⟨lw_p33, List.forall_mem_cons.mpr ⟨lw_p34, List.forall_mem_cons.mpr ⟨lw_p35, List.forall_mem_cons.mpr ⟨lw_p36, List.forall_mem_cons.mpr ⟨lw_p37, List.forall_mem_cons.mpr ⟨lw_p38, List.forall_mem_cons.mpr ⟨lw_p39, List.forall_mem_cons.mpr ⟨lw_p40, List.forall_mem_cons.mpr ⟨lw_p41, List.forall_mem_cons.mpr ⟨lw_p42, List.forall_mem_cons.mpr ⟨lw_p43, List.forall_mem_cons.mpr ⟨lw_p44, List.forall_mem_cons.mpr ⟨lw_p45, List.forall_mem_cons.mpr ⟨lw_p46, List.forall_mem_cons.mpr ⟨lw_p47, fun _ h => absurd h List.not_mem_nil⟩⟩⟩⟩⟩⟩⟩⟩⟩⟩⟩⟩⟩⟩⟩⟩
theorem lw_p48 : lw_okq (⟨"LateLettersModel", "slack", "(I)I"⟩, 25) := ⟨⟨by decide +kernel, by decide +kernel⟩, List.mem_of_getElem? (i := 700) (by decide +kernel), List.mem_of_getElem? (i := 893) (by decide +kernel), List.mem_of_getElem? (i := 894) (by decide +kernel)⟩
theorem lw_p49 : lw_okq (⟨"LateLettersModel", "gathered", "(I)I"⟩, 25) := ⟨⟨by decide +kernel, by decide +kernel⟩, List.mem_of_getElem? (i := 700) (by decide +kernel), List.mem_of_getElem? (i := 897) (by decide +kernel), List.mem_of_getElem? (i := 898) (by decide +kernel)⟩
theorem lw_p50 : lw_okq (⟨"LateLettersModel", "mayMove", "([III)Z"⟩, 25) := ⟨⟨by decide +kernel, by decide +kernel⟩, List.mem_of_getElem? (i := 700) (by decide +kernel), List.mem_of_getElem? (i := 917) (by decide +kernel), List.mem_of_getElem? (i := 918) (by decide +kernel)⟩
theorem lw_p51 : lw_okq (⟨"LateLettersModel", "below", "([II)I"⟩, 25) := ⟨⟨by decide +kernel, by decide +kernel⟩, List.mem_of_getElem? (i := 700) (by decide +kernel), List.mem_of_getElem? (i := 921) (by decide +kernel), List.mem_of_getElem? (i := 922) (by decide +kernel)⟩
theorem lw_p52 : lw_okq (⟨"LateLettersModel", "note", "()V"⟩, 25) := ⟨⟨by decide +kernel, by decide +kernel⟩, List.mem_of_getElem? (i := 700) (by decide +kernel), List.mem_of_getElem? (i := 925) (by decide +kernel), List.mem_of_getElem? (i := 926) (by decide +kernel)⟩
theorem lw_p53 : lw_okq (⟨"LateLettersModel", "moveOn", "([III)V"⟩, 25) := ⟨⟨by decide +kernel, by decide +kernel⟩, List.mem_of_getElem? (i := 700) (by decide +kernel), List.mem_of_getElem? (i := 929) (by decide +kernel), List.mem_of_getElem? (i := 930) (by decide +kernel)⟩
theorem lw_p54 : lw_okq (⟨"LateLettersModel", "isPair", "(I)Z"⟩, 25) := ⟨⟨by decide +kernel, by decide +kernel⟩, List.mem_of_getElem? (i := 700) (by decide +kernel), List.mem_of_getElem? (i := 937) (by decide +kernel), List.mem_of_getElem? (i := 938) (by decide +kernel)⟩
theorem lw_p55 : lw_okq (⟨"LateLettersModel", "layMany", "(I)V"⟩, 25) := ⟨⟨by decide +kernel, by decide +kernel⟩, List.mem_of_getElem? (i := 700) (by decide +kernel), List.mem_of_getElem? (i := 967) (by decide +kernel), List.mem_of_getElem? (i := 968) (by decide +kernel)⟩
theorem lw_p56 : lw_okq (⟨"LateLettersModel", "judged", "(III)Z"⟩, 25) := ⟨⟨by decide +kernel, by decide +kernel⟩, List.mem_of_getElem? (i := 700) (by decide +kernel), List.mem_of_getElem? (i := 990) (by decide +kernel), List.mem_of_getElem? (i := 991) (by decide +kernel)⟩
theorem lw_p57 : lw_okq (⟨"LateLettersModel", "lastBy", "(I)I"⟩, 25) := ⟨⟨by decide +kernel, by decide +kernel⟩, List.mem_of_getElem? (i := 700) (by decide +kernel), List.mem_of_getElem? (i := 1011) (by decide +kernel), List.mem_of_getElem? (i := 1012) (by decide +kernel)⟩
theorem lw_p58 : lw_okq (⟨"LateLettersModel", "knowing", "(I)I"⟩, 25) := ⟨⟨by decide +kernel, by decide +kernel⟩, List.mem_of_getElem? (i := 700) (by decide +kernel), List.mem_of_getElem? (i := 1029) (by decide +kernel), List.mem_of_getElem? (i := 1030) (by decide +kernel)⟩
def lw_privs_4 : List (MethodName × Nat) := [(⟨"LateLettersModel", "slack", "(I)I"⟩, 25), (⟨"LateLettersModel", "gathered", "(I)I"⟩, 25), (⟨"LateLettersModel", "mayMove", "([III)Z"⟩, 25), (⟨"LateLettersModel", "below", "([II)I"⟩, 25), (⟨"LateLettersModel", "note", "()V"⟩, 25), (⟨"LateLettersModel", "moveOn", "([III)V"⟩, 25), (⟨"LateLettersModel", "isPair", "(I)Z"⟩, 25), (⟨"LateLettersModel", "layMany", "(I)V"⟩, 25), (⟨"LateLettersModel", "judged", "(III)Z"⟩, 25), (⟨"LateLettersModel", "lastBy", "(I)I"⟩, 25), (⟨"LateLettersModel", "knowing", "(I)I"⟩, 25)]
theorem lw_r4 : ∀ q ∈ lw_privs_4, lw_okq q := List.forall_mem_cons.mpr ⟨lw_p48, List.forall_mem_cons.mpr ⟨lw_p49, List.forall_mem_cons.mpr ⟨lw_p50, List.forall_mem_cons.mpr ⟨lw_p51, List.forall_mem_cons.mpr ⟨lw_p52, List.forall_mem_cons.mpr ⟨lw_p53, List.forall_mem_cons.mpr ⟨lw_p54, List.forall_mem_cons.mpr ⟨lw_p55, List.forall_mem_cons.mpr ⟨lw_p56, List.forall_mem_cons.mpr ⟨lw_p57, List.forall_mem_cons.mpr ⟨lw_p58, fun _ h => absurd h List.not_mem_nil⟩⟩⟩⟩⟩⟩⟩⟩⟩⟩⟩
def lw_privs : List (MethodName × Nat) := lw_privs_1 ++ (lw_privs_2 ++ (lw_privs_3 ++ (lw_privs_4)))
def lw_tbl : List Cond := k2_sels lw_privs ++ tables_1
theorem lw_privs_ok : ∀ q ∈ lw_privs, lw_okq q := by
  show ∀ q ∈ lw_privs_1 ++ (lw_privs_2 ++ (lw_privs_3 ++ (lw_privs_4))), lw_okq q
  exact List.forall_mem_append.mpr ⟨lw_r1, List.forall_mem_append.mpr ⟨lw_r2, List.forall_mem_append.mpr ⟨lw_r3, lw_r4⟩⟩⟩
end
section
def RX0 : String := "LateLetters$Acts"
def TX0 : u_T := fun k => match k with
  | 0 => ("LateLetters$Acts", "before", "LLateLetters$Shelf;", true)
  | 1 => ("LateLetters$Acts", "first", "I", false)
  | _ => ("LateLetters$Acts", "count", "I", false)
def tyX0 : Nat → FieldType := fun k => match k with
  | 0 => .object "LateLetters$Shelf"
  | 1 => .int
  | _ => .int
theorem nmX0 : ∀ a, a < 3 → ∀ b, b < 3 → a ≠ b → (TX0 a).2.1 ≠ (TX0 b).2.1 := by decide +kernel
theorem tyX0_ok : ∀ k, k < 3 → parseFieldDescriptor (TX0 k).2.2.1 = some (tyX0 k) := by decide +kernel
abbrev cX0_init : ByteArray := prog_2_method_1_code
def yX0_init : MethodName := ⟨RX0, "<init>", "()V"⟩
abbrev cX0_count : ByteArray := prog_2_method_2_code
def yX0_count : MethodName := ⟨RX0, "count", "()I"⟩
abbrev cX0_forgetAll : ByteArray := prog_2_method_3_code
def yX0_forgetAll : MethodName := ⟨RX0, "forgetAll", "()V"⟩
abbrev cX0_remember : ByteArray := prog_2_method_4_code
def yX0_remember : MethodName := ⟨RX0, "remember", "(LLateLetters$Telling;)V"⟩
abbrev cX0_takeBack : ByteArray := prog_2_method_5_code
def yX0_takeBack : MethodName := ⟨RX0, "takeBack", "(LLateLetters$Telling;)Z"⟩
def RX1 : String := "LateLetters$Numbers"
def TX1 : u_T := fun k => match k with
  | _ => ("LateLetters$Numbers", "byTick", "[J", true)
def tyX1 : Nat → FieldType := fun k => match k with
  | _ => .array .long
theorem nmX1 : ∀ a, a < 1 → ∀ b, b < 1 → a ≠ b → (TX1 a).2.1 ≠ (TX1 b).2.1 := by decide +kernel
theorem tyX1_ok : ∀ k, k < 1 → parseFieldDescriptor (TX1 k).2.2.1 = some (tyX1 k) := by decide +kernel
abbrev cX1_init : ByteArray := prog_3_method_1_code
def yX1_init : MethodName := ⟨RX1, "<init>", "()V"⟩
abbrev cX1_count : ByteArray := prog_3_method_2_code
def yX1_count : MethodName := ⟨RX1, "count", "(II)V"⟩
abbrev cX1_by : ByteArray := prog_3_method_3_code
def yX1_by : MethodName := ⟨RX1, "by", "(I)J"⟩
def RX2 : String := "LateLetters$Seen"
def TX2 : u_T := fun k => match k with
  | 0 => ("LateLetters$Seen", "people", "[I", true)
  | 1 => ("LateLetters$Seen", "ticks", "[I", true)
  | _ => ("LateLetters$Seen", "count", "I", false)
def tyX2 : Nat → FieldType := fun k => match k with
  | 0 => .array .int
  | 1 => .array .int
  | _ => .int
theorem nmX2 : ∀ a, a < 3 → ∀ b, b < 3 → a ≠ b → (TX2 a).2.1 ≠ (TX2 b).2.1 := by decide +kernel
theorem tyX2_ok : ∀ k, k < 3 → parseFieldDescriptor (TX2 k).2.2.1 = some (tyX2 k) := by decide +kernel
abbrev cX2_init : ByteArray := prog_4_method_1_code
def yX2_init : MethodName := ⟨RX2, "<init>", "()V"⟩
abbrev cX2_count : ByteArray := prog_4_method_2_code
def yX2_count : MethodName := ⟨RX2, "count", "()I"⟩
abbrev cX2_forgetAll : ByteArray := prog_4_method_3_code
def yX2_forgetAll : MethodName := ⟨RX2, "forgetAll", "()V"⟩
abbrev cX2_add : ByteArray := prog_4_method_4_code
def yX2_add : MethodName := ⟨RX2, "add", "(II)Z"⟩
abbrev cX2_isSo : ByteArray := prog_4_method_5_code
def yX2_isSo : MethodName := ⟨RX2, "isSo", "(LLateLetters$Telling;LLateLetters$Times;)Z"⟩
def RX3 : String := "LateLetters$Shelf"
def TX3 : u_T := fun k => match k with
  | _ => ("LateLetters$Shelf", "places", "[LLateLetters$Telling;", true)
def tyX3 : Nat → FieldType := fun k => match k with
  | _ => .array (.object "LateLetters$Telling")
theorem nmX3 : ∀ a, a < 1 → ∀ b, b < 1 → a ≠ b → (TX3 a).2.1 ≠ (TX3 b).2.1 := by decide +kernel
theorem tyX3_ok : ∀ k, k < 1 → parseFieldDescriptor (TX3 k).2.2.1 = some (tyX3 k) := by decide +kernel
abbrev cX3_init : ByteArray := prog_5_method_1_code
def yX3_init : MethodName := ⟨RX3, "<init>", "(I)V"⟩
abbrev cX3_store : ByteArray := prog_5_method_2_code
def yX3_store : MethodName := ⟨RX3, "store", "(ILLateLetters$Telling;)V"⟩
abbrev cX3_bring : ByteArray := prog_5_method_3_code
def yX3_bring : MethodName := ⟨RX3, "bring", "(ILLateLetters$Telling;)V"⟩
abbrev cX3_placeAt : ByteArray := prog_5_method_4_code
def yX3_placeAt : MethodName := ⟨RX3, "placeAt", "(I)LLateLetters$Telling;"⟩
def RX4 : String := "LateLetters$Slots"
def TX4 : u_T := fun k => match k with
  | 0 => ("LateLetters$Slots", "kept", "LLateLetters$Shelf;", true)
  | _ => ("LateLetters$Slots", "filled", "I", false)
def tyX4 : Nat → FieldType := fun k => match k with
  | 0 => .object "LateLetters$Shelf"
  | _ => .int
theorem nmX4 : ∀ a, a < 2 → ∀ b, b < 2 → a ≠ b → (TX4 a).2.1 ≠ (TX4 b).2.1 := by decide +kernel
theorem tyX4_ok : ∀ k, k < 2 → parseFieldDescriptor (TX4 k).2.2.1 = some (tyX4 k) := by decide +kernel
abbrev cX4_init : ByteArray := prog_6_method_1_code
def yX4_init : MethodName := ⟨RX4, "<init>", "()V"⟩
abbrev cX4_forgetAll : ByteArray := prog_6_method_2_code
def yX4_forgetAll : MethodName := ⟨RX4, "forgetAll", "()V"⟩
abbrev cX4_fill : ByteArray := prog_6_method_3_code
def yX4_fill : MethodName := ⟨RX4, "fill", "(ILLateLetters$Telling;)V"⟩
abbrev cX4_fetch : ByteArray := prog_6_method_4_code
def yX4_fetch : MethodName := ⟨RX4, "fetch", "(ILLateLetters$Telling;)Z"⟩
def RX5 : String := "LateLetters$Tellers"
def TX5 : u_T := fun k => match k with
  | 0 => ("LateLetters$Tellers", "nextThere", "[I", true)
  | _ => ("LateLetters$Tellers", "knowers", "I", false)
def tyX5 : Nat → FieldType := fun k => match k with
  | 0 => .array .int
  | _ => .int
theorem nmX5 : ∀ a, a < 2 → ∀ b, b < 2 → a ≠ b → (TX5 a).2.1 ≠ (TX5 b).2.1 := by decide +kernel
theorem tyX5_ok : ∀ k, k < 2 → parseFieldDescriptor (TX5 k).2.2.1 = some (tyX5 k) := by decide +kernel
abbrev cX5_init : ByteArray := prog_7_method_1_code
def yX5_init : MethodName := ⟨RX5, "<init>", "()V"⟩
abbrev cX5_layQuickPlan : ByteArray := prog_7_method_2_code
def yX5_layQuickPlan : MethodName := ⟨RX5, "layQuickPlan", "(LLateLetters$Telling;)V"⟩
abbrev cX5_leastLast : ByteArray := prog_7_method_3_code
def yX5_leastLast : MethodName := ⟨RX5, "leastLast", "(LLateLetters$Telling;)I"⟩
abbrev cX5_leastLastFrom : ByteArray := prog_7_method_4_code
def yX5_leastLastFrom : MethodName := ⟨RX5, "leastLastFrom", "(LLateLetters$Telling;II)I"⟩
abbrev cX5_begin : ByteArray := prog_7_method_5_code
def yX5_begin : MethodName := ⟨RX5, "begin", "(LLateLetters$Telling;)V"⟩
abbrev cX5_isKnower : ByteArray := prog_7_method_6_code
def yX5_isKnower : MethodName := ⟨RX5, "isKnower", "(I)Z"⟩
abbrev cX5_soonest : ByteArray := prog_7_method_7_code
def yX5_soonest : MethodName := ⟨RX5, "soonest", "(LLateLetters$Telling;)I"⟩
abbrev cX5_leastDelayed : ByteArray := prog_7_method_8_code
def yX5_leastDelayed : MethodName := ⟨RX5, "leastDelayed", "(LLateLetters$Telling;)I"⟩
abbrev cX5_isLessDelayed : ByteArray := prog_7_method_9_code
def yX5_isLessDelayed : MethodName := ⟨RX5, "isLessDelayed", "(LLateLetters$Telling;II)Z"⟩
abbrev cX5_tell : ByteArray := prog_7_method_10_code
def yX5_tell : MethodName := ⟨RX5, "tell", "(LLateLetters$Telling;II)V"⟩
abbrev cX5_takeBack : ByteArray := prog_7_method_11_code
def yX5_takeBack : MethodName := ⟨RX5, "takeBack", "(LLateLetters$Telling;II)V"⟩
def RX6 : String := "LateLetters$Telling"
def TX6 : u_T := fun k => match k with
  | 0 => ("LateLetters$Telling", "people", "I", false)
  | 1 => ("LateLetters$Telling", "news", "I", false)
  | 2 => ("LateLetters$Telling", "standing", "I", false)
  | 3 => ("LateLetters$Telling", "delays", "[I", true)
  | 4 => ("LateLetters$Telling", "gaps", "[I", true)
  | 5 => ("LateLetters$Telling", "tellerRow", "[I", true)
  | _ => ("LateLetters$Telling", "planRow", "[I", true)
def tyX6 : Nat → FieldType := fun k => match k with
  | 0 => .int
  | 1 => .int
  | 2 => .int
  | 3 => .array .int
  | 4 => .array .int
  | 5 => .array .int
  | _ => .array .int
theorem nmX6 : ∀ a, a < 7 → ∀ b, b < 7 → a ≠ b → (TX6 a).2.1 ≠ (TX6 b).2.1 := by decide +kernel
theorem tyX6_ok : ∀ k, k < 7 → parseFieldDescriptor (TX6 k).2.2.1 = some (tyX6 k) := by decide +kernel
abbrev cX6_init : ByteArray := prog_8_method_1_code
def yX6_init : MethodName := ⟨RX6, "<init>", "()V"⟩
abbrev cX6_become : ByteArray := prog_8_method_2_code
def yX6_become : MethodName := ⟨RX6, "become", "(LLateLetters$Telling;)V"⟩
abbrev cX6_startWith : ByteArray := prog_8_method_3_code
def yX6_startWith : MethodName := ⟨RX6, "startWith", "(II)V"⟩
abbrev cX6_emptyPlan : ByteArray := prog_8_method_4_code
def yX6_emptyPlan : MethodName := ⟨RX6, "emptyPlan", "()V"⟩
abbrev cX6_putLast : ByteArray := prog_8_method_5_code
def yX6_putLast : MethodName := ⟨RX6, "putLast", "(II)V"⟩
abbrev cX6_people : ByteArray := prog_8_method_6_code
def yX6_people : MethodName := ⟨RX6, "people", "()I"⟩
abbrev cX6_news : ByteArray := prog_8_method_7_code
def yX6_news : MethodName := ⟨RX6, "news", "()I"⟩
abbrev cX6_standing : ByteArray := prog_8_method_8_code
def yX6_standing : MethodName := ⟨RX6, "standing", "()I"⟩
abbrev cX6_hasPerson : ByteArray := prog_8_method_9_code
def yX6_hasPerson : MethodName := ⟨RX6, "hasPerson", "(I)Z"⟩
abbrev cX6_hasNews : ByteArray := prog_8_method_10_code
def yX6_hasNews : MethodName := ⟨RX6, "hasNews", "(I)Z"⟩
abbrev cX6_hasPlace : ByteArray := prog_8_method_11_code
def yX6_hasPlace : MethodName := ⟨RX6, "hasPlace", "(I)Z"⟩
abbrev cX6_delayOf : ByteArray := prog_8_method_12_code
def yX6_delayOf : MethodName := ⟨RX6, "delayOf", "(I)I"⟩
abbrev cX6_gapOf : ByteArray := prog_8_method_13_code
def yX6_gapOf : MethodName := ⟨RX6, "gapOf", "(I)I"⟩
abbrev cX6_tellerOf : ByteArray := prog_8_method_14_code
def yX6_tellerOf : MethodName := ⟨RX6, "tellerOf", "(I)I"⟩
abbrev cX6_personAt : ByteArray := prog_8_method_15_code
def yX6_personAt : MethodName := ⟨RX6, "personAt", "(I)I"⟩
abbrev cX6_placeOf : ByteArray := prog_8_method_16_code
def yX6_placeOf : MethodName := ⟨RX6, "placeOf", "(I)I"⟩
abbrev cX6_countToldBy : ByteArray := prog_8_method_17_code
def yX6_countToldBy : MethodName := ⟨RX6, "countToldBy", "(I)I"⟩
abbrev cX6_branchOf : ByteArray := prog_8_method_18_code
def yX6_branchOf : MethodName := ⟨RX6, "branchOf", "(I)I"⟩
abbrev cX6_setDelay : ByteArray := prog_8_method_19_code
def yX6_setDelay : MethodName := ⟨RX6, "setDelay", "(II)V"⟩
abbrev cX6_setGap : ByteArray := prog_8_method_20_code
def yX6_setGap : MethodName := ⟨RX6, "setGap", "(II)V"⟩
abbrev cX6_tellAnew : ByteArray := prog_8_method_21_code
def yX6_tellAnew : MethodName := ⟨RX6, "tellAnew", "(III)I"⟩
abbrev cX6_giveTeller : ByteArray := prog_8_method_22_code
def yX6_giveTeller : MethodName := ⟨RX6, "giveTeller", "(II)V"⟩
abbrev cX6_sendBehindAll : ByteArray := prog_8_method_23_code
def yX6_sendBehindAll : MethodName := ⟨RX6, "sendBehindAll", "(I)V"⟩
abbrev cX6_exchange : ByteArray := prog_8_method_24_code
def yX6_exchange : MethodName := ⟨RX6, "exchange", "(I)V"⟩
def RX7 : String := "LateLetters$Text"
def TX7 : u_T := fun k => match k with
  | 0 => ("LateLetters$Text", "letters", "[I", true)
  | _ => ("LateLetters$Text", "length", "I", false)
def tyX7 : Nat → FieldType := fun k => match k with
  | 0 => .array .int
  | _ => .int
theorem nmX7 : ∀ a, a < 2 → ∀ b, b < 2 → a ≠ b → (TX7 a).2.1 ≠ (TX7 b).2.1 := by decide +kernel
theorem tyX7_ok : ∀ k, k < 2 → parseFieldDescriptor (TX7 k).2.2.1 = some (tyX7 k) := by decide +kernel
abbrev cX7_init : ByteArray := prog_9_method_1_code
def yX7_init : MethodName := ⟨RX7, "<init>", "()V"⟩
abbrev cX7_length : ByteArray := prog_9_method_2_code
def yX7_length : MethodName := ⟨RX7, "length", "()I"⟩
abbrev cX7_add : ByteArray := prog_9_method_3_code
def yX7_add : MethodName := ⟨RX7, "add", "(I)Z"⟩
abbrev cX7_clear : ByteArray := prog_9_method_4_code
def yX7_clear : MethodName := ⟨RX7, "clear", "()V"⟩
abbrev cX7_firstFault : ByteArray := prog_9_method_5_code
def yX7_firstFault : MethodName := ⟨RX7, "firstFault", "()I"⟩
abbrev cX7_tellInto : ByteArray := prog_9_method_6_code
def yX7_tellInto : MethodName := ⟨RX7, "tellInto", "(LLateLetters$Telling;)V"⟩
abbrev cX7_figureAt : ByteArray := prog_9_method_7_code
def yX7_figureAt : MethodName := ⟨RX7, "figureAt", "(I)I"⟩
abbrev cX7_isFigure : ByteArray := prog_9_method_8_code
def yX7_isFigure : MethodName := ⟨RX7, "isFigure", "(III)Z"⟩
abbrev cX7_planStart : ByteArray := prog_9_method_9_code
def yX7_planStart : MethodName := ⟨RX7, "planStart", "()I"⟩
abbrev cX7_wholeLength : ByteArray := prog_9_method_10_code
def yX7_wholeLength : MethodName := ⟨RX7, "wholeLength", "()I"⟩
abbrev cX7_fits : ByteArray := prog_9_method_11_code
def yX7_fits : MethodName := ⟨RX7, "fits", "(I)Z"⟩
abbrev cX7_fitsInHead : ByteArray := prog_9_method_12_code
def yX7_fitsInHead : MethodName := ⟨RX7, "fitsInHead", "(I)Z"⟩
abbrev cX7_fitsInPlan : ByteArray := prog_9_method_13_code
def yX7_fitsInPlan : MethodName := ⟨RX7, "fitsInPlan", "(II)Z"⟩
abbrev cX7_stands : ByteArray := prog_9_method_14_code
def yX7_stands : MethodName := ⟨RX7, "stands", "(III)Z"⟩
def RX8 : String := "LateLetters$Times"
def TX8 : u_T := fun k => match k with
  | 0 => ("LateLetters$Times", "ticks", "[I", true)
  | _ => ("LateLetters$Times", "freeFrom", "[I", true)
def tyX8 : Nat → FieldType := fun k => match k with
  | 0 => .array .int
  | _ => .array .int
theorem nmX8 : ∀ a, a < 2 → ∀ b, b < 2 → a ≠ b → (TX8 a).2.1 ≠ (TX8 b).2.1 := by decide +kernel
theorem tyX8_ok : ∀ k, k < 2 → parseFieldDescriptor (TX8 k).2.2.1 = some (tyX8 k) := by decide +kernel
abbrev cX8_init : ByteArray := prog_10_method_1_code
def yX8_init : MethodName := ⟨RX8, "<init>", "()V"⟩
abbrev cX8_follow : ByteArray := prog_10_method_2_code
def yX8_follow : MethodName := ⟨RX8, "follow", "(LLateLetters$Telling;)I"⟩
abbrev cX8_send : ByteArray := prog_10_method_3_code
def yX8_send : MethodName := ⟨RX8, "send", "(LLateLetters$Telling;II)I"⟩
abbrev cX8_tickOf : ByteArray := prog_10_method_4_code
def yX8_tickOf : MethodName := ⟨RX8, "tickOf", "(II)I"⟩
def RX9 : String := "LateLetters"
def TX9 : u_T := fun k => match k with
  | 0 => ("LateLetters", "now", "LLateLetters$Telling;", true)
  | 1 => ("LateLetters", "supposed", "LLateLetters$Telling;", true)
  | 2 => ("LateLetters", "times", "LLateLetters$Times;", true)
  | 3 => ("LateLetters", "tellers", "LLateLetters$Tellers;", true)
  | 4 => ("LateLetters", "numbers", "LLateLetters$Numbers;", true)
  | 5 => ("LateLetters", "text", "LLateLetters$Text;", true)
  | 6 => ("LateLetters", "acts", "LLateLetters$Acts;", true)
  | 7 => ("LateLetters", "slots", "LLateLetters$Slots;", true)
  | 8 => ("LateLetters", "seen", "LLateLetters$Seen;", true)
  | 9 => ("LateLetters", "doings", "[I", true)
  | _ => ("LateLetters", "theSeed", "J", false)
def tyX9 : Nat → FieldType := fun k => match k with
  | 0 => .object "LateLetters$Telling"
  | 1 => .object "LateLetters$Telling"
  | 2 => .object "LateLetters$Times"
  | 3 => .object "LateLetters$Tellers"
  | 4 => .object "LateLetters$Numbers"
  | 5 => .object "LateLetters$Text"
  | 6 => .object "LateLetters$Acts"
  | 7 => .object "LateLetters$Slots"
  | 8 => .object "LateLetters$Seen"
  | 9 => .array .int
  | _ => .long
theorem nmX9 : ∀ a, a < 11 → ∀ b, b < 11 → a ≠ b → (TX9 a).2.1 ≠ (TX9 b).2.1 := by decide +kernel
theorem tyX9_ok : ∀ k, k < 11 → parseFieldDescriptor (TX9 k).2.2.1 = some (tyX9 k) := by decide +kernel
abbrev cX9_init : ByteArray := prog_1_method_1_code
def yX9_init : MethodName := ⟨RX9, "<init>", "()V"⟩
abbrev cX9_write : ByteArray := prog_1_method_2_code
def yX9_write : MethodName := ⟨RX9, "write", "(I)I"⟩
abbrev cX9_wipe : ByteArray := prog_1_method_3_code
def yX9_wipe : MethodName := ⟨RX9, "wipe", "()I"⟩
abbrev cX9_fault : ByteArray := prog_1_method_4_code
def yX9_fault : MethodName := ⟨RX9, "fault", "()I"⟩
abbrev cX9_telling : ByteArray := prog_1_method_5_code
def yX9_telling : MethodName := ⟨RX9, "telling", "()I"⟩
abbrev cX9_about : ByteArray := prog_1_method_6_code
def yX9_about : MethodName := ⟨RX9, "about", "(I)I"⟩
abbrev cX9_person : ByteArray := prog_1_method_7_code
def yX9_person : MethodName := ⟨RX9, "person", "(II)I"⟩
abbrev cX9_plan : ByteArray := prog_1_method_8_code
def yX9_plan : MethodName := ⟨RX9, "plan", "(I)I"⟩
abbrev cX9_knows : ByteArray := prog_1_method_9_code
def yX9_knows : MethodName := ⟨RX9, "knows", "(II)I"⟩
abbrev cX9_last : ByteArray := prog_1_method_10_code
def yX9_last : MethodName := ⟨RX9, "last", "(I)I"⟩
abbrev cX9_move : ByteArray := prog_1_method_11_code
def yX9_move : MethodName := ⟨RX9, "move", "(II)I"⟩
abbrev cX9_change : ByteArray := prog_1_method_12_code
def yX9_change : MethodName := ⟨RX9, "change", "(I)I"⟩
abbrev cX9_quicken : ByteArray := prog_1_method_13_code
def yX9_quicken : MethodName := ⟨RX9, "quicken", "()I"⟩
abbrev cX9_set : ByteArray := prog_1_method_14_code
def yX9_set : MethodName := ⟨RX9, "set", "(III)I"⟩
abbrev cX9_undo : ByteArray := prog_1_method_15_code
def yX9_undo : MethodName := ⟨RX9, "undo", "()I"⟩
abbrev cX9_number : ByteArray := prog_1_method_16_code
def yX9_number : MethodName := ⟨RX9, "number", "(II)J"⟩
abbrev cX9_soon : ByteArray := prog_1_method_17_code
def yX9_soon : MethodName := ⟨RX9, "soon", "(II)I"⟩
abbrev cX9_knowers : ByteArray := prog_1_method_18_code
def yX9_knowers : MethodName := ⟨RX9, "knowers", "(II)I"⟩
abbrev cX9_judge : ByteArray := prog_1_method_19_code
def yX9_judge : MethodName := ⟨RX9, "judge", "(IJ)I"⟩
abbrev cX9_see : ByteArray := prog_1_method_20_code
def yX9_see : MethodName := ⟨RX9, "see", "(II)I"⟩
abbrev cX9_unsee : ByteArray := prog_1_method_21_code
def yX9_unsee : MethodName := ⟨RX9, "unsee", "()I"⟩
abbrev cX9_which : ByteArray := prog_1_method_22_code
def yX9_which : MethodName := ⟨RX9, "which", "(I)I"⟩
abbrev cX9_share : ByteArray := prog_1_method_23_code
def yX9_share : MethodName := ⟨RX9, "share", "(IZ)I"⟩
abbrev cX9_chance : ByteArray := prog_1_method_24_code
def yX9_chance : MethodName := ⟨RX9, "chance", "(IIZ)I"⟩
abbrev cX9_seed : ByteArray := prog_1_method_25_code
def yX9_seed : MethodName := ⟨RX9, "seed", "(J)J"⟩
abbrev cX9_drawn : ByteArray := prog_1_method_26_code
def yX9_drawn : MethodName := ⟨RX9, "drawn", "(I)I"⟩
abbrev cX9_keep : ByteArray := prog_1_method_27_code
def yX9_keep : MethodName := ⟨RX9, "keep", "(I)I"⟩
abbrev cX9_again : ByteArray := prog_1_method_28_code
def yX9_again : MethodName := ⟨RX9, "again", "(I)I"⟩
abbrev cX9_refusalOfMove : ByteArray := prog_1_method_29_code
def yX9_refusalOfMove : MethodName := ⟨RX9, "refusalOfMove", "(LLateLetters$Telling;II)I"⟩
abbrev cX9_refusalOfChange : ByteArray := prog_1_method_30_code
def yX9_refusalOfChange : MethodName := ⟨RX9, "refusalOfChange", "(LLateLetters$Telling;I)I"⟩
abbrev cX9_refusalOfSet : ByteArray := prog_1_method_31_code
def yX9_refusalOfSet : MethodName := ⟨RX9, "refusalOfSet", "(LLateLetters$Telling;III)I"⟩
abbrev cX9_lastIfQuick : ByteArray := prog_1_method_32_code
def yX9_lastIfQuick : MethodName := ⟨RX9, "lastIfQuick", "()I"⟩
abbrev cX9_slackOf : ByteArray := prog_1_method_33_code
def yX9_slackOf : MethodName := ⟨RX9, "slackOf", "(I)I"⟩
abbrev cX9_gatheredFrom : ByteArray := prog_1_method_34_code
def yX9_gatheredFrom : MethodName := ⟨RX9, "gatheredFrom", "(I)I"⟩
abbrev cX9_readDoings : ByteArray := prog_1_method_35_code
def yX9_readDoings : MethodName := ⟨RX9, "readDoings", "(IJ)Z"⟩
abbrev cX9_canBe : ByteArray := prog_1_method_36_code
def yX9_canBe : MethodName := ⟨RX9, "canBe", "(III)Z"⟩
abbrev cX9_canBeMoved : ByteArray := prog_1_method_37_code
def yX9_canBeMoved : MethodName := ⟨RX9, "canBeMoved", "(II)Z"⟩
abbrev cX9_canBeChanged : ByteArray := prog_1_method_38_code
def yX9_canBeChanged : MethodName := ⟨RX9, "canBeChanged", "(I)Z"⟩
abbrev cX9_canBeDelayed : ByteArray := prog_1_method_39_code
def yX9_canBeDelayed : MethodName := ⟨RX9, "canBeDelayed", "(II)Z"⟩
abbrev cX9_peopleWhoseDelayMayCount : ByteArray := prog_1_method_40_code
def yX9_peopleWhoseDelayMayCount : MethodName := ⟨RX9, "peopleWhoseDelayMayCount", "()I"⟩
abbrev cX9_lastWhenCome : ByteArray := prog_1_method_41_code
def yX9_lastWhenCome : MethodName := ⟨RX9, "lastWhenCome", "(I)I"⟩
abbrev cX9_chancesFrom : ByteArray := prog_1_method_42_code
def yX9_chancesFrom : MethodName := ⟨RX9, "chancesFrom", "(IIII)J"⟩
abbrev cX9_drawDelays : ByteArray := prog_1_method_43_code
def yX9_drawDelays : MethodName := ⟨RX9, "drawDelays", "(I)V"⟩
abbrev cX9_factorial : ByteArray := prog_1_method_44_code
def yX9_factorial : MethodName := ⟨RX9, "factorial", "(I)J"⟩
abbrev cX9_partOfFraction : ByteArray := prog_1_method_45_code
def yX9_partOfFraction : MethodName := ⟨RX9, "partOfFraction", "(JJZ)I"⟩
abbrev cX9_commonDivisor : ByteArray := prog_1_method_46_code
def yX9_commonDivisor : MethodName := ⟨RX9, "commonDivisor", "(JJ)J"⟩
abbrev cX9_at : ByteArray := prog_1_method_47_code
def yX9_at : MethodName := ⟨RX9, "at", "([II)I"⟩
abbrev cX9_put : ByteArray := prog_1_method_48_code
def yX9_put : MethodName := ⟨RX9, "put", "([III)V"⟩
def RX10 : String := "LateLettersModel"
def TX10 : u_T := fun k => match k with
  | 0 => ("LateLettersModel", "text", "[I", true)
  | 1 => ("LateLettersModel", "length", "I", false)
  | 2 => ("LateLettersModel", "people", "I", false)
  | 3 => ("LateLettersModel", "now", "[I", true)
  | 4 => ("LateLettersModel", "trial", "[I", true)
  | 5 => ("LateLettersModel", "diary", "[I", true)
  | 6 => ("LateLettersModel", "acts", "I", false)
  | 7 => ("LateLettersModel", "next", "I", false)
  | 8 => ("LateLettersModel", "kept", "[I", true)
  | 9 => ("LateLettersModel", "isKept", "[Z", true)
  | 10 => ("LateLettersModel", "seenWho", "[I", true)
  | 11 => ("LateLettersModel", "seenTick", "[I", true)
  | 12 => ("LateLettersModel", "seen", "I", false)
  | 13 => ("LateLettersModel", "seed", "J", false)
  | 14 => ("LateLettersModel", "tick", "[I", true)
  | 15 => ("LateLettersModel", "when", "[I", true)
  | 16 => ("LateLettersModel", "began", "[I", true)
  | 17 => ("LateLettersModel", "order", "[I", true)
  | 18 => ("LateLettersModel", "worth", "[I", true)
  | 19 => ("LateLettersModel", "many", "[J", true)
  | 20 => ("LateLettersModel", "readPeople", "I", false)
  | 21 => ("LateLettersModel", "read", "[I", true)
  | 22 => ("LateLettersModel", "readStand", "I", false)
  | 23 => ("LateLettersModel", "readMany", "I", false)
  | _ => ("LateLettersModel", "readWho", "I", false)
def tyX10 : Nat → FieldType := fun k => match k with
  | 0 => .array .int
  | 1 => .int
  | 2 => .int
  | 3 => .array .int
  | 4 => .array .int
  | 5 => .array .int
  | 6 => .int
  | 7 => .int
  | 8 => .array .int
  | 9 => .array .boolean
  | 10 => .array .int
  | 11 => .array .int
  | 12 => .int
  | 13 => .long
  | 14 => .array .int
  | 15 => .array .int
  | 16 => .array .int
  | 17 => .array .int
  | 18 => .array .int
  | 19 => .array .long
  | 20 => .int
  | 21 => .array .int
  | 22 => .int
  | 23 => .int
  | _ => .int
theorem nmX10 : ∀ a, a < 25 → ∀ b, b < 25 → a ≠ b → (TX10 a).2.1 ≠ (TX10 b).2.1 := by decide +kernel
theorem tyX10_ok : ∀ k, k < 25 → parseFieldDescriptor (TX10 k).2.2.1 = some (tyX10 k) := by decide +kernel
abbrev cX10_init : ByteArray := prog_12_method_1_code
def yX10_init : MethodName := ⟨RX10, "<init>", "()V"⟩
abbrev cX10_copy : ByteArray := prog_12_method_3_code
def yX10_copy : MethodName := ⟨RX10, "copy", "([I[I)V"⟩
abbrev cX10_in : ByteArray := prog_12_method_4_code
def yX10_in : MethodName := ⟨RX10, "in", "(JJJ)Z"⟩
abbrev cX10_has : ByteArray := prog_12_method_5_code
def yX10_has : MethodName := ⟨RX10, "has", "(II)Z"⟩
abbrev cX10_ones : ByteArray := prog_12_method_6_code
def yX10_ones : MethodName := ⟨RX10, "ones", "(I)I"⟩
abbrev cX10_power : ByteArray := prog_12_method_7_code
def yX10_power : MethodName := ⟨RX10, "power", "(II)I"⟩
abbrev cX10_factorial : ByteArray := prog_12_method_8_code
def yX10_factorial : MethodName := ⟨RX10, "factorial", "(I)I"⟩
abbrev cX10_fraction : ByteArray := prog_12_method_9_code
def yX10_fraction : MethodName := ⟨RX10, "fraction", "(IIZ)I"⟩
abbrev cX10_isPerson : ByteArray := prog_12_method_10_code
def yX10_isPerson : MethodName := ⟨RX10, "isPerson", "(I)Z"⟩
abbrev cX10_write : ByteArray := prog_12_method_11_code
def yX10_write : MethodName := ⟨RX10, "write", "(I)I"⟩
abbrev cX10_wipe : ByteArray := prog_12_method_12_code
def yX10_wipe : MethodName := ⟨RX10, "wipe", "()I"⟩
abbrev cX10_takeHead : ByteArray := prog_12_method_13_code
def yX10_takeHead : MethodName := ⟨RX10, "takeHead", "(II)Z"⟩
abbrev cX10_takePart : ByteArray := prog_12_method_14_code
def yX10_takePart : MethodName := ⟨RX10, "takePart", "(II)Z"⟩
abbrev cX10_readText : ByteArray := prog_12_method_15_code
def yX10_readText : MethodName := ⟨RX10, "readText", "()I"⟩
abbrev cX10_fault : ByteArray := prog_12_method_16_code
def yX10_fault : MethodName := ⟨RX10, "fault", "()I"⟩
abbrev cX10_telling : ByteArray := prog_12_method_17_code
def yX10_telling : MethodName := ⟨RX10, "telling", "()I"⟩
abbrev cX10_layTold : ByteArray := prog_12_method_18_code
def yX10_layTold : MethodName := ⟨RX10, "layTold", "([II)V"⟩
abbrev cX10_layTicks : ByteArray := prog_12_method_19_code
def yX10_layTicks : MethodName := ⟨RX10, "layTicks", "([I)V"⟩
abbrev cX10_lastOfNews : ByteArray := prog_12_method_20_code
def yX10_lastOfNews : MethodName := ⟨RX10, "lastOfNews", "([II)I"⟩
abbrev cX10_lastOf : ByteArray := prog_12_method_21_code
def yX10_lastOf : MethodName := ⟨RX10, "lastOf", "([I)I"⟩
abbrev cX10_nextBegin : ByteArray := prog_12_method_22_code
def yX10_nextBegin : MethodName := ⟨RX10, "nextBegin", "([II)I"⟩
abbrev cX10_beginOne : ByteArray := prog_12_method_23_code
def yX10_beginOne : MethodName := ⟨RX10, "beginOne", "()V"⟩
abbrev cX10_tell : ByteArray := prog_12_method_24_code
def yX10_tell : MethodName := ⟨RX10, "tell", "([III)I"⟩
abbrev cX10_soonest : ByteArray := prog_12_method_25_code
def yX10_soonest : MethodName := ⟨RX10, "soonest", "([I)I"⟩
abbrev cX10_quickest : ByteArray := prog_12_method_26_code
def yX10_quickest : MethodName := ⟨RX10, "quickest", "([I)I"⟩
abbrev cX10_quick : ByteArray := prog_12_method_27_code
def yX10_quick : MethodName := ⟨RX10, "quick", "([I)V"⟩
abbrev cX10_lateBy : ByteArray := prog_12_method_28_code
def yX10_lateBy : MethodName := ⟨RX10, "lateBy", "(I)I"⟩
abbrev cX10_best : ByteArray := prog_12_method_29_code
def yX10_best : MethodName := ⟨RX10, "best", "()I"⟩
abbrev cX10_about : ByteArray := prog_12_method_30_code
def yX10_about : MethodName := ⟨RX10, "about", "(I)I"⟩
abbrev cX10_placeOf : ByteArray := prog_12_method_31_code
def yX10_placeOf : MethodName := ⟨RX10, "placeOf", "(I)I"⟩
abbrev cX10_toldBy : ByteArray := prog_12_method_32_code
def yX10_toldBy : MethodName := ⟨RX10, "toldBy", "([II)I"⟩
abbrev cX10_slack : ByteArray := prog_12_method_33_code
def yX10_slack : MethodName := ⟨RX10, "slack", "(I)I"⟩
abbrev cX10_gathered : ByteArray := prog_12_method_34_code
def yX10_gathered : MethodName := ⟨RX10, "gathered", "(I)I"⟩
abbrev cX10_person : ByteArray := prog_12_method_35_code
def yX10_person : MethodName := ⟨RX10, "person", "(II)I"⟩
abbrev cX10_plan : ByteArray := prog_12_method_36_code
def yX10_plan : MethodName := ⟨RX10, "plan", "(I)I"⟩
abbrev cX10_knows : ByteArray := prog_12_method_37_code
def yX10_knows : MethodName := ⟨RX10, "knows", "(II)I"⟩
abbrev cX10_last : ByteArray := prog_12_method_38_code
def yX10_last : MethodName := ⟨RX10, "last", "(I)I"⟩
abbrev cX10_note : ByteArray := prog_12_method_39_code
def yX10_note : MethodName := ⟨RX10, "note", "()V"⟩
abbrev cX10_below : ByteArray := prog_12_method_40_code
def yX10_below : MethodName := ⟨RX10, "below", "([II)I"⟩
abbrev cX10_mayMove : ByteArray := prog_12_method_41_code
def yX10_mayMove : MethodName := ⟨RX10, "mayMove", "([III)Z"⟩
abbrev cX10_moveOn : ByteArray := prog_12_method_42_code
def yX10_moveOn : MethodName := ⟨RX10, "moveOn", "([III)V"⟩
abbrev cX10_move : ByteArray := prog_12_method_43_code
def yX10_move : MethodName := ⟨RX10, "move", "(II)I"⟩
abbrev cX10_isPair : ByteArray := prog_12_method_44_code
def yX10_isPair : MethodName := ⟨RX10, "isPair", "(I)Z"⟩
abbrev cX10_mayChange : ByteArray := prog_12_method_45_code
def yX10_mayChange : MethodName := ⟨RX10, "mayChange", "([II)Z"⟩
abbrev cX10_changeOn : ByteArray := prog_12_method_46_code
def yX10_changeOn : MethodName := ⟨RX10, "changeOn", "([II)V"⟩
abbrev cX10_change : ByteArray := prog_12_method_47_code
def yX10_change : MethodName := ⟨RX10, "change", "(I)I"⟩
abbrev cX10_quicken : ByteArray := prog_12_method_48_code
def yX10_quicken : MethodName := ⟨RX10, "quicken", "()I"⟩
abbrev cX10_set : ByteArray := prog_12_method_49_code
def yX10_set : MethodName := ⟨RX10, "set", "(III)I"⟩
abbrev cX10_undo : ByteArray := prog_12_method_50_code
def yX10_undo : MethodName := ⟨RX10, "undo", "()I"⟩
abbrev cX10_layMany : ByteArray := prog_12_method_51_code
def yX10_layMany : MethodName := ⟨RX10, "layMany", "(I)V"⟩
abbrev cX10_number : ByteArray := prog_12_method_52_code
def yX10_number : MethodName := ⟨RX10, "number", "(II)J"⟩
abbrev cX10_soon : ByteArray := prog_12_method_53_code
def yX10_soon : MethodName := ⟨RX10, "soon", "(II)I"⟩
abbrev cX10_knowers : ByteArray := prog_12_method_54_code
def yX10_knowers : MethodName := ⟨RX10, "knowers", "(II)I"⟩
abbrev cX10_judged : ByteArray := prog_12_method_55_code
def yX10_judged : MethodName := ⟨RX10, "judged", "(III)Z"⟩
abbrev cX10_thousands : ByteArray := prog_12_method_56_code
def yX10_thousands : MethodName := ⟨RX10, "thousands", "(I)J"⟩
abbrev cX10_judge : ByteArray := prog_12_method_57_code
def yX10_judge : MethodName := ⟨RX10, "judge", "(IJ)I"⟩
abbrev cX10_see : ByteArray := prog_12_method_58_code
def yX10_see : MethodName := ⟨RX10, "see", "(II)I"⟩
abbrev cX10_unsee : ByteArray := prog_12_method_59_code
def yX10_unsee : MethodName := ⟨RX10, "unsee", "()I"⟩
abbrev cX10_which : ByteArray := prog_12_method_60_code
def yX10_which : MethodName := ⟨RX10, "which", "(I)I"⟩
abbrev cX10_lastBy : ByteArray := prog_12_method_61_code
def yX10_lastBy : MethodName := ⟨RX10, "lastBy", "(I)I"⟩
abbrev cX10_share : ByteArray := prog_12_method_62_code
def yX10_share : MethodName := ⟨RX10, "share", "(IZ)I"⟩
abbrev cX10_knowing : ByteArray := prog_12_method_63_code
def yX10_knowing : MethodName := ⟨RX10, "knowing", "(I)I"⟩
abbrev cX10_chance : ByteArray := prog_12_method_64_code
def yX10_chance : MethodName := ⟨RX10, "chance", "(IIZ)I"⟩
abbrev cX10_seed : ByteArray := prog_12_method_65_code
def yX10_seed : MethodName := ⟨RX10, "seed", "(J)J"⟩
abbrev cX10_drawn : ByteArray := prog_12_method_66_code
def yX10_drawn : MethodName := ⟨RX10, "drawn", "(I)I"⟩
abbrev cX10_keep : ByteArray := prog_12_method_67_code
def yX10_keep : MethodName := ⟨RX10, "keep", "(I)I"⟩
abbrev cX10_again : ByteArray := prog_12_method_68_code
def yX10_again : MethodName := ⟨RX10, "again", "(I)I"⟩
def RJ6 : String := "java/lang/Integer"
abbrev cJ6_bitCount_0f7a4 : ByteArray := prog_13_method_49_code
def yJ6_bitCount_0f7a4 : MethodName := ⟨RJ6, "bitCount", "(I)I"⟩
def RJ9 : String := "java/lang/Math"
abbrev cJ9_abs_067f4 : ByteArray := prog_14_method_61_code
def yJ9_abs_067f4 : MethodName := ⟨RJ9, "abs", "(J)J"⟩
abbrev cJ9_max_7cf53 : ByteArray := prog_14_method_65_code
def yJ9_max_7cf53 : MethodName := ⟨RJ9, "max", "(II)I"⟩
abbrev cJ9_min_7cf53 : ByteArray := prog_14_method_69_code
def yJ9_min_7cf53 : MethodName := ⟨RJ9, "min", "(II)I"⟩
def RJ10 : String := "java/lang/System"
def RL : String := "LateLettersLaw"
abbrev cL_law : ByteArray := code
abbrev vwCl : List vw_C := [(RX0, TX0, 3), (RX1, TX1, 1), (RX2, TX2, 3), (RX3, TX3, 1), (RX4, TX4, 2), (RX5, TX5, 2), (RX6, TX6, 7), (RX7, TX7, 2), (RX8, TX8, 2), (RX9, TX9, 11), (RX10, TX10, 25)]
end
section
theorem dX0_init_0 : decode cX0_init 0 = .ok (.aload_n 0, 1) := by decide +kernel
theorem dX0_init_1 : decode cX0_init 1 = .ok (.invokespecial 3, 3) := by decide +kernel
theorem dX0_init_4 : decode cX0_init 4 = .ok (.aload_n 0, 1) := by decide +kernel
theorem dX0_init_5 : decode cX0_init 5 = .ok (.new 9, 3) := by decide +kernel
theorem dX0_init_8 : decode cX0_init 8 = .ok (.dup, 1) := by decide +kernel
theorem dX0_init_9 : decode cX0_init 9 = .ok (.bipush 14, 2) := by decide +kernel
theorem dX0_init_11 : decode cX0_init 11 = .ok (.invokespecial 11, 3) := by decide +kernel
theorem dX0_init_14 : decode cX0_init 14 = .ok (.putfield 14, 3) := by decide +kernel
theorem dX0_init_17 : decode cX0_init 17 = .ok (.return_, 1) := by decide +kernel
theorem dX0_count_0 : decode cX0_count 0 = .ok (.aload_n 0, 1) := by decide +kernel
theorem dX0_count_1 : decode cX0_count 1 = .ok (.getfield 20, 3) := by decide +kernel
theorem dX0_count_4 : decode cX0_count 4 = .ok (.ireturn, 1) := by decide +kernel
theorem dX0_forgetAll_0 : decode cX0_forgetAll 0 = .ok (.aload_n 0, 1) := by decide +kernel
theorem dX0_forgetAll_1 : decode cX0_forgetAll 1 = .ok (.iconst 0, 1) := by decide +kernel
theorem dX0_forgetAll_2 : decode cX0_forgetAll 2 = .ok (.putfield 20, 3) := by decide +kernel
theorem dX0_forgetAll_5 : decode cX0_forgetAll 5 = .ok (.return_, 1) := by decide +kernel
theorem dX0_remember_0 : decode cX0_remember 0 = .ok (.aload_n 0, 1) := by decide +kernel
theorem dX0_remember_1 : decode cX0_remember 1 = .ok (.getfield 20, 3) := by decide +kernel
theorem dX0_remember_4 : decode cX0_remember 4 = .ok (.bipush 14, 2) := by decide +kernel
theorem dX0_remember_6 : decode cX0_remember 6 = .ok (.if_icmp .ne 26, 3) := by decide +kernel
theorem dX0_remember_9 : decode cX0_remember 9 = .ok (.aload_n 0, 1) := by decide +kernel
theorem dX0_remember_10 : decode cX0_remember 10 = .ok (.aload_n 0, 1) := by decide +kernel
theorem dX0_remember_11 : decode cX0_remember 11 = .ok (.getfield 24, 3) := by decide +kernel
theorem dX0_remember_14 : decode cX0_remember 14 = .ok (.iconst 1, 1) := by decide +kernel
theorem dX0_remember_15 : decode cX0_remember 15 = .ok (.iadd, 1) := by decide +kernel
theorem dX0_remember_16 : decode cX0_remember 16 = .ok (.bipush 14, 2) := by decide +kernel
theorem dX0_remember_18 : decode cX0_remember 18 = .ok (.irem, 1) := by decide +kernel
theorem dX0_remember_19 : decode cX0_remember 19 = .ok (.putfield 24, 3) := by decide +kernel
theorem dX0_remember_22 : decode cX0_remember 22 = .ok (.aload_n 0, 1) := by decide +kernel
theorem dX0_remember_23 : decode cX0_remember 23 = .ok (.dup, 1) := by decide +kernel
theorem dX0_remember_24 : decode cX0_remember 24 = .ok (.getfield 20, 3) := by decide +kernel
theorem dX0_remember_27 : decode cX0_remember 27 = .ok (.iconst 1, 1) := by decide +kernel
theorem dX0_remember_28 : decode cX0_remember 28 = .ok (.isub, 1) := by decide +kernel
theorem dX0_remember_29 : decode cX0_remember 29 = .ok (.putfield 20, 3) := by decide +kernel
theorem dX0_remember_32 : decode cX0_remember 32 = .ok (.aload_n 0, 1) := by decide +kernel
theorem dX0_remember_33 : decode cX0_remember 33 = .ok (.getfield 14, 3) := by decide +kernel
theorem dX0_remember_36 : decode cX0_remember 36 = .ok (.aload_n 0, 1) := by decide +kernel
theorem dX0_remember_37 : decode cX0_remember 37 = .ok (.getfield 24, 3) := by decide +kernel
theorem dX0_remember_40 : decode cX0_remember 40 = .ok (.aload_n 0, 1) := by decide +kernel
theorem dX0_remember_41 : decode cX0_remember 41 = .ok (.getfield 20, 3) := by decide +kernel
theorem dX0_remember_44 : decode cX0_remember 44 = .ok (.iadd, 1) := by decide +kernel
theorem dX0_remember_45 : decode cX0_remember 45 = .ok (.bipush 14, 2) := by decide +kernel
theorem dX0_remember_47 : decode cX0_remember 47 = .ok (.irem, 1) := by decide +kernel
theorem dX0_remember_48 : decode cX0_remember 48 = .ok (.aload_n 1, 1) := by decide +kernel
theorem dX0_remember_49 : decode cX0_remember 49 = .ok (.invokevirtual 27, 3) := by decide +kernel
theorem dX0_remember_52 : decode cX0_remember 52 = .ok (.aload_n 0, 1) := by decide +kernel
theorem dX0_remember_53 : decode cX0_remember 53 = .ok (.dup, 1) := by decide +kernel
theorem dX0_remember_54 : decode cX0_remember 54 = .ok (.getfield 20, 3) := by decide +kernel
theorem dX0_remember_57 : decode cX0_remember 57 = .ok (.iconst 1, 1) := by decide +kernel
theorem dX0_remember_58 : decode cX0_remember 58 = .ok (.iadd, 1) := by decide +kernel
theorem dX0_remember_59 : decode cX0_remember 59 = .ok (.putfield 20, 3) := by decide +kernel
theorem dX0_remember_62 : decode cX0_remember 62 = .ok (.return_, 1) := by decide +kernel
theorem dX0_takeBack_0 : decode cX0_takeBack 0 = .ok (.aload_n 0, 1) := by decide +kernel
theorem dX0_takeBack_1 : decode cX0_takeBack 1 = .ok (.getfield 20, 3) := by decide +kernel
theorem dX0_takeBack_4 : decode cX0_takeBack 4 = .ok (.ifCond .ne 5, 3) := by decide +kernel
theorem dX0_takeBack_7 : decode cX0_takeBack 7 = .ok (.iconst 0, 1) := by decide +kernel
theorem dX0_takeBack_8 : decode cX0_takeBack 8 = .ok (.ireturn, 1) := by decide +kernel
theorem dX0_takeBack_9 : decode cX0_takeBack 9 = .ok (.aload_n 0, 1) := by decide +kernel
theorem dX0_takeBack_10 : decode cX0_takeBack 10 = .ok (.dup, 1) := by decide +kernel
theorem dX0_takeBack_11 : decode cX0_takeBack 11 = .ok (.getfield 20, 3) := by decide +kernel
theorem dX0_takeBack_14 : decode cX0_takeBack 14 = .ok (.iconst 1, 1) := by decide +kernel
theorem dX0_takeBack_15 : decode cX0_takeBack 15 = .ok (.isub, 1) := by decide +kernel
theorem dX0_takeBack_16 : decode cX0_takeBack 16 = .ok (.putfield 20, 3) := by decide +kernel
theorem dX0_takeBack_19 : decode cX0_takeBack 19 = .ok (.aload_n 0, 1) := by decide +kernel
theorem dX0_takeBack_20 : decode cX0_takeBack 20 = .ok (.getfield 14, 3) := by decide +kernel
theorem dX0_takeBack_23 : decode cX0_takeBack 23 = .ok (.aload_n 0, 1) := by decide +kernel
theorem dX0_takeBack_24 : decode cX0_takeBack 24 = .ok (.getfield 24, 3) := by decide +kernel
theorem dX0_takeBack_27 : decode cX0_takeBack 27 = .ok (.aload_n 0, 1) := by decide +kernel
theorem dX0_takeBack_28 : decode cX0_takeBack 28 = .ok (.getfield 20, 3) := by decide +kernel
theorem dX0_takeBack_31 : decode cX0_takeBack 31 = .ok (.iadd, 1) := by decide +kernel
theorem dX0_takeBack_32 : decode cX0_takeBack 32 = .ok (.bipush 14, 2) := by decide +kernel
theorem dX0_takeBack_34 : decode cX0_takeBack 34 = .ok (.irem, 1) := by decide +kernel
theorem dX0_takeBack_35 : decode cX0_takeBack 35 = .ok (.aload_n 1, 1) := by decide +kernel
theorem dX0_takeBack_36 : decode cX0_takeBack 36 = .ok (.invokevirtual 31, 3) := by decide +kernel
theorem dX0_takeBack_39 : decode cX0_takeBack 39 = .ok (.iconst 1, 1) := by decide +kernel
theorem dX0_takeBack_40 : decode cX0_takeBack 40 = .ok (.ireturn, 1) := by decide +kernel
theorem dX1_init_0 : decode cX1_init 0 = .ok (.aload_n 0, 1) := by decide +kernel
theorem dX1_init_1 : decode cX1_init 1 = .ok (.invokespecial 3, 3) := by decide +kernel
theorem dX1_init_4 : decode cX1_init 4 = .ok (.aload_n 0, 1) := by decide +kernel
theorem dX1_init_5 : decode cX1_init 5 = .ok (.bipush 61, 2) := by decide +kernel
theorem dX1_init_7 : decode cX1_init 7 = .ok (.newarray .long, 2) := by decide +kernel
theorem dX1_init_9 : decode cX1_init 9 = .ok (.putfield 9, 3) := by decide +kernel
theorem dX1_init_12 : decode cX1_init 12 = .ok (.return_, 1) := by decide +kernel
theorem dX1_count_0 : decode cX1_count 0 = .ok (.iconst 0, 1) := by decide +kernel
theorem dX1_count_1 : decode cX1_count 1 = .ok (.istore_n 3, 1) := by decide +kernel
theorem dX1_count_2 : decode cX1_count 2 = .ok (.iload_n 3, 1) := by decide +kernel
theorem dX1_count_3 : decode cX1_count 3 = .ok (.aload_n 0, 1) := by decide +kernel
theorem dX1_count_4 : decode cX1_count 4 = .ok (.getfield 9, 3) := by decide +kernel
theorem dX1_count_7 : decode cX1_count 7 = .ok (.arraylength, 1) := by decide +kernel
theorem dX1_count_8 : decode cX1_count 8 = .ok (.if_icmp .ge 39, 3) := by decide +kernel
theorem dX1_count_11 : decode cX1_count 11 = .ok (.aload_n 0, 1) := by decide +kernel
theorem dX1_count_12 : decode cX1_count 12 = .ok (.getfield 9, 3) := by decide +kernel
theorem dX1_count_15 : decode cX1_count 15 = .ok (.iload_n 3, 1) := by decide +kernel
theorem dX1_count_16 : decode cX1_count 16 = .ok (.iload_n 3, 1) := by decide +kernel
theorem dX1_count_17 : decode cX1_count 17 = .ok (.iload_n 1, 1) := by decide +kernel
theorem dX1_count_18 : decode cX1_count 18 = .ok (.if_icmp .ge 7, 3) := by decide +kernel
theorem dX1_count_21 : decode cX1_count 21 = .ok (.lconst 1, 1) := by decide +kernel
theorem dX1_count_22 : decode cX1_count 22 = .ok (.goto 18, 3) := by decide +kernel
theorem dX1_count_25 : decode cX1_count 25 = .ok (.aload_n 0, 1) := by decide +kernel
theorem dX1_count_26 : decode cX1_count 26 = .ok (.iload_n 3, 1) := by decide +kernel
theorem dX1_count_27 : decode cX1_count 27 = .ok (.iload_n 1, 1) := by decide +kernel
theorem dX1_count_28 : decode cX1_count 28 = .ok (.isub, 1) := by decide +kernel
theorem dX1_count_29 : decode cX1_count 29 = .ok (.invokevirtual 15, 3) := by decide +kernel
theorem dX1_count_32 : decode cX1_count 32 = .ok (.aload_n 0, 1) := by decide +kernel
theorem dX1_count_33 : decode cX1_count 33 = .ok (.iload_n 3, 1) := by decide +kernel
theorem dX1_count_34 : decode cX1_count 34 = .ok (.iload_n 2, 1) := by decide +kernel
theorem dX1_count_35 : decode cX1_count 35 = .ok (.isub, 1) := by decide +kernel
theorem dX1_count_36 : decode cX1_count 36 = .ok (.invokevirtual 15, 3) := by decide +kernel
theorem dX1_count_39 : decode cX1_count 39 = .ok (.ladd, 1) := by decide +kernel
theorem dX1_count_40 : decode cX1_count 40 = .ok (.lastore, 1) := by decide +kernel
theorem dX1_count_41 : decode cX1_count 41 = .ok (.iinc 3 1, 3) := by decide +kernel
theorem dX1_count_44 : decode cX1_count 44 = .ok (.goto (-42), 3) := by decide +kernel
theorem dX1_count_47 : decode cX1_count 47 = .ok (.return_, 1) := by decide +kernel
theorem dX1_by_0 : decode cX1_by 0 = .ok (.iload_n 1, 1) := by decide +kernel
theorem dX1_by_1 : decode cX1_by 1 = .ok (.ifCond .lt 21, 3) := by decide +kernel
theorem dX1_by_4 : decode cX1_by 4 = .ok (.iload_n 1, 1) := by decide +kernel
theorem dX1_by_5 : decode cX1_by 5 = .ok (.aload_n 0, 1) := by decide +kernel
theorem dX1_by_6 : decode cX1_by 6 = .ok (.getfield 9, 3) := by decide +kernel
theorem dX1_by_9 : decode cX1_by 9 = .ok (.arraylength, 1) := by decide +kernel
theorem dX1_by_10 : decode cX1_by 10 = .ok (.if_icmp .ge 12, 3) := by decide +kernel
theorem dX1_by_13 : decode cX1_by 13 = .ok (.aload_n 0, 1) := by decide +kernel
theorem dX1_by_14 : decode cX1_by 14 = .ok (.getfield 9, 3) := by decide +kernel
theorem dX1_by_17 : decode cX1_by 17 = .ok (.iload_n 1, 1) := by decide +kernel
theorem dX1_by_18 : decode cX1_by 18 = .ok (.laload, 1) := by decide +kernel
theorem dX1_by_19 : decode cX1_by 19 = .ok (.goto 4, 3) := by decide +kernel
theorem dX1_by_22 : decode cX1_by 22 = .ok (.lconst 1, 1) := by decide +kernel
theorem dX1_by_23 : decode cX1_by 23 = .ok (.lreturn, 1) := by decide +kernel
theorem dX2_init_0 : decode cX2_init 0 = .ok (.aload_n 0, 1) := by decide +kernel
theorem dX2_init_1 : decode cX2_init 1 = .ok (.invokespecial 3, 3) := by decide +kernel
theorem dX2_init_4 : decode cX2_init 4 = .ok (.aload_n 0, 1) := by decide +kernel
theorem dX2_init_5 : decode cX2_init 5 = .ok (.bipush 6, 2) := by decide +kernel
theorem dX2_init_7 : decode cX2_init 7 = .ok (.newarray .int, 2) := by decide +kernel
theorem dX2_init_9 : decode cX2_init 9 = .ok (.putfield 9, 3) := by decide +kernel
theorem dX2_init_12 : decode cX2_init 12 = .ok (.aload_n 0, 1) := by decide +kernel
theorem dX2_init_13 : decode cX2_init 13 = .ok (.bipush 6, 2) := by decide +kernel
theorem dX2_init_15 : decode cX2_init 15 = .ok (.newarray .int, 2) := by decide +kernel
theorem dX2_init_17 : decode cX2_init 17 = .ok (.putfield 15, 3) := by decide +kernel
theorem dX2_init_20 : decode cX2_init 20 = .ok (.return_, 1) := by decide +kernel
theorem dX2_count_0 : decode cX2_count 0 = .ok (.aload_n 0, 1) := by decide +kernel
theorem dX2_count_1 : decode cX2_count 1 = .ok (.getfield 18, 3) := by decide +kernel
theorem dX2_count_4 : decode cX2_count 4 = .ok (.ireturn, 1) := by decide +kernel
theorem dX2_forgetAll_0 : decode cX2_forgetAll 0 = .ok (.aload_n 0, 1) := by decide +kernel
theorem dX2_forgetAll_1 : decode cX2_forgetAll 1 = .ok (.iconst 0, 1) := by decide +kernel
theorem dX2_forgetAll_2 : decode cX2_forgetAll 2 = .ok (.putfield 18, 3) := by decide +kernel
theorem dX2_forgetAll_5 : decode cX2_forgetAll 5 = .ok (.return_, 1) := by decide +kernel
theorem dX2_add_0 : decode cX2_add 0 = .ok (.aload_n 0, 1) := by decide +kernel
theorem dX2_add_1 : decode cX2_add 1 = .ok (.getfield 18, 3) := by decide +kernel
theorem dX2_add_4 : decode cX2_add 4 = .ok (.bipush 6, 2) := by decide +kernel
theorem dX2_add_6 : decode cX2_add 6 = .ok (.if_icmp .lt 5, 3) := by decide +kernel
theorem dX2_add_9 : decode cX2_add 9 = .ok (.iconst 0, 1) := by decide +kernel
theorem dX2_add_10 : decode cX2_add 10 = .ok (.ireturn, 1) := by decide +kernel
theorem dX2_add_11 : decode cX2_add 11 = .ok (.aload_n 0, 1) := by decide +kernel
theorem dX2_add_12 : decode cX2_add 12 = .ok (.getfield 9, 3) := by decide +kernel
theorem dX2_add_15 : decode cX2_add 15 = .ok (.aload_n 0, 1) := by decide +kernel
theorem dX2_add_16 : decode cX2_add 16 = .ok (.getfield 18, 3) := by decide +kernel
theorem dX2_add_19 : decode cX2_add 19 = .ok (.iload_n 1, 1) := by decide +kernel
theorem dX2_add_20 : decode cX2_add 20 = .ok (.invokestatic 22, 3) := by decide +kernel
theorem dX2_add_23 : decode cX2_add 23 = .ok (.aload_n 0, 1) := by decide +kernel
theorem dX2_add_24 : decode cX2_add 24 = .ok (.getfield 15, 3) := by decide +kernel
theorem dX2_add_27 : decode cX2_add 27 = .ok (.aload_n 0, 1) := by decide +kernel
theorem dX2_add_28 : decode cX2_add 28 = .ok (.getfield 18, 3) := by decide +kernel
theorem dX2_add_31 : decode cX2_add 31 = .ok (.iload_n 2, 1) := by decide +kernel
theorem dX2_add_32 : decode cX2_add 32 = .ok (.invokestatic 22, 3) := by decide +kernel
theorem dX2_add_35 : decode cX2_add 35 = .ok (.aload_n 0, 1) := by decide +kernel
theorem dX2_add_36 : decode cX2_add 36 = .ok (.dup, 1) := by decide +kernel
theorem dX2_add_37 : decode cX2_add 37 = .ok (.getfield 18, 3) := by decide +kernel
theorem dX2_add_40 : decode cX2_add 40 = .ok (.iconst 1, 1) := by decide +kernel
theorem dX2_add_41 : decode cX2_add 41 = .ok (.iadd, 1) := by decide +kernel
theorem dX2_add_42 : decode cX2_add 42 = .ok (.putfield 18, 3) := by decide +kernel
theorem dX2_add_45 : decode cX2_add 45 = .ok (.iconst 1, 1) := by decide +kernel
theorem dX2_add_46 : decode cX2_add 46 = .ok (.ireturn, 1) := by decide +kernel
theorem dX2_isSo_0 : decode cX2_isSo 0 = .ok (.iconst 0, 1) := by decide +kernel
theorem dX2_isSo_1 : decode cX2_isSo 1 = .ok (.istore_n 3, 1) := by decide +kernel
theorem dX2_isSo_2 : decode cX2_isSo 2 = .ok (.iload_n 3, 1) := by decide +kernel
theorem dX2_isSo_3 : decode cX2_isSo 3 = .ok (.aload_n 0, 1) := by decide +kernel
theorem dX2_isSo_4 : decode cX2_isSo 4 = .ok (.getfield 18, 3) := by decide +kernel
theorem dX2_isSo_7 : decode cX2_isSo 7 = .ok (.if_icmp .ge 48, 3) := by decide +kernel
theorem dX2_isSo_10 : decode cX2_isSo 10 = .ok (.aload_n 0, 1) := by decide +kernel
theorem dX2_isSo_11 : decode cX2_isSo 11 = .ok (.getfield 9, 3) := by decide +kernel
theorem dX2_isSo_14 : decode cX2_isSo 14 = .ok (.iload_n 3, 1) := by decide +kernel
theorem dX2_isSo_15 : decode cX2_isSo 15 = .ok (.invokestatic 26, 3) := by decide +kernel
theorem dX2_isSo_18 : decode cX2_isSo 18 = .ok (.istore 4, 2) := by decide +kernel
theorem dX2_isSo_20 : decode cX2_isSo 20 = .ok (.aload_n 1, 1) := by decide +kernel
theorem dX2_isSo_21 : decode cX2_isSo 21 = .ok (.iload 4, 2) := by decide +kernel
theorem dX2_isSo_23 : decode cX2_isSo 23 = .ok (.invokevirtual 30, 3) := by decide +kernel
theorem dX2_isSo_26 : decode cX2_isSo 26 = .ok (.ifCond .eq 23, 3) := by decide +kernel
theorem dX2_isSo_29 : decode cX2_isSo 29 = .ok (.aload_n 2, 1) := by decide +kernel
theorem dX2_isSo_30 : decode cX2_isSo 30 = .ok (.iload 4, 2) := by decide +kernel
theorem dX2_isSo_32 : decode cX2_isSo 32 = .ok (.iconst 0, 1) := by decide +kernel
theorem dX2_isSo_33 : decode cX2_isSo 33 = .ok (.invokevirtual 36, 3) := by decide +kernel
theorem dX2_isSo_36 : decode cX2_isSo 36 = .ok (.aload_n 0, 1) := by decide +kernel
theorem dX2_isSo_37 : decode cX2_isSo 37 = .ok (.getfield 15, 3) := by decide +kernel
theorem dX2_isSo_40 : decode cX2_isSo 40 = .ok (.iload_n 3, 1) := by decide +kernel
theorem dX2_isSo_41 : decode cX2_isSo 41 = .ok (.invokestatic 26, 3) := by decide +kernel
theorem dX2_isSo_44 : decode cX2_isSo 44 = .ok (.if_icmp .eq 5, 3) := by decide +kernel
theorem dX2_isSo_47 : decode cX2_isSo 47 = .ok (.iconst 0, 1) := by decide +kernel
theorem dX2_isSo_48 : decode cX2_isSo 48 = .ok (.ireturn, 1) := by decide +kernel
theorem dX2_isSo_49 : decode cX2_isSo 49 = .ok (.iinc 3 1, 3) := by decide +kernel
theorem dX2_isSo_52 : decode cX2_isSo 52 = .ok (.goto (-50), 3) := by decide +kernel
theorem dX2_isSo_55 : decode cX2_isSo 55 = .ok (.iconst 1, 1) := by decide +kernel
theorem dX2_isSo_56 : decode cX2_isSo 56 = .ok (.ireturn, 1) := by decide +kernel
theorem dX3_init_0 : decode cX3_init 0 = .ok (.aload_n 0, 1) := by decide +kernel
theorem dX3_init_1 : decode cX3_init 1 = .ok (.invokespecial 1, 3) := by decide +kernel
theorem dX3_init_4 : decode cX3_init 4 = .ok (.aload_n 0, 1) := by decide +kernel
theorem dX3_init_5 : decode cX3_init 5 = .ok (.iload_n 1, 1) := by decide +kernel
theorem dX3_init_6 : decode cX3_init 6 = .ok (.iconst 0, 1) := by decide +kernel
theorem dX3_init_7 : decode cX3_init 7 = .ok (.invokestatic 7, 3) := by decide +kernel
theorem dX3_init_10 : decode cX3_init 10 = .ok (.anewarray 13, 3) := by decide +kernel
theorem dX3_init_13 : decode cX3_init 13 = .ok (.putfield 15, 3) := by decide +kernel
theorem dX3_init_16 : decode cX3_init 16 = .ok (.iconst 0, 1) := by decide +kernel
theorem dX3_init_17 : decode cX3_init 17 = .ok (.istore_n 2, 1) := by decide +kernel
theorem dX3_init_18 : decode cX3_init 18 = .ok (.iload_n 2, 1) := by decide +kernel
theorem dX3_init_19 : decode cX3_init 19 = .ok (.aload_n 0, 1) := by decide +kernel
theorem dX3_init_20 : decode cX3_init 20 = .ok (.getfield 15, 3) := by decide +kernel
theorem dX3_init_23 : decode cX3_init 23 = .ok (.arraylength, 1) := by decide +kernel
theorem dX3_init_24 : decode cX3_init 24 = .ok (.if_icmp .ge 22, 3) := by decide +kernel
theorem dX3_init_27 : decode cX3_init 27 = .ok (.aload_n 0, 1) := by decide +kernel
theorem dX3_init_28 : decode cX3_init 28 = .ok (.getfield 15, 3) := by decide +kernel
theorem dX3_init_31 : decode cX3_init 31 = .ok (.iload_n 2, 1) := by decide +kernel
theorem dX3_init_32 : decode cX3_init 32 = .ok (.new 13, 3) := by decide +kernel
theorem dX3_init_35 : decode cX3_init 35 = .ok (.dup, 1) := by decide +kernel
theorem dX3_init_36 : decode cX3_init 36 = .ok (.invokespecial 21, 3) := by decide +kernel
theorem dX3_init_39 : decode cX3_init 39 = .ok (.aastore, 1) := by decide +kernel
theorem dX3_init_40 : decode cX3_init 40 = .ok (.iinc 2 1, 3) := by decide +kernel
theorem dX3_init_43 : decode cX3_init 43 = .ok (.goto (-25), 3) := by decide +kernel
theorem dX3_init_46 : decode cX3_init 46 = .ok (.return_, 1) := by decide +kernel
theorem dX3_store_0 : decode cX3_store 0 = .ok (.aload_n 0, 1) := by decide +kernel
theorem dX3_store_1 : decode cX3_store 1 = .ok (.iload_n 1, 1) := by decide +kernel
theorem dX3_store_2 : decode cX3_store 2 = .ok (.invokevirtual 22, 3) := by decide +kernel
theorem dX3_store_5 : decode cX3_store 5 = .ok (.astore_n 3, 1) := by decide +kernel
theorem dX3_store_6 : decode cX3_store 6 = .ok (.aload_n 3, 1) := by decide +kernel
theorem dX3_store_7 : decode cX3_store 7 = .ok (.ifnull 8, 3) := by decide +kernel
theorem dX3_store_10 : decode cX3_store 10 = .ok (.aload_n 3, 1) := by decide +kernel
theorem dX3_store_11 : decode cX3_store 11 = .ok (.aload_n 2, 1) := by decide +kernel
theorem dX3_store_12 : decode cX3_store 12 = .ok (.invokevirtual 26, 3) := by decide +kernel
theorem dX3_store_15 : decode cX3_store 15 = .ok (.return_, 1) := by decide +kernel
theorem dX3_bring_0 : decode cX3_bring 0 = .ok (.aload_n 0, 1) := by decide +kernel
theorem dX3_bring_1 : decode cX3_bring 1 = .ok (.iload_n 1, 1) := by decide +kernel
theorem dX3_bring_2 : decode cX3_bring 2 = .ok (.invokevirtual 22, 3) := by decide +kernel
theorem dX3_bring_5 : decode cX3_bring 5 = .ok (.astore_n 3, 1) := by decide +kernel
theorem dX3_bring_6 : decode cX3_bring 6 = .ok (.aload_n 3, 1) := by decide +kernel
theorem dX3_bring_7 : decode cX3_bring 7 = .ok (.ifnull 8, 3) := by decide +kernel
theorem dX3_bring_10 : decode cX3_bring 10 = .ok (.aload_n 2, 1) := by decide +kernel
theorem dX3_bring_11 : decode cX3_bring 11 = .ok (.aload_n 3, 1) := by decide +kernel
theorem dX3_bring_12 : decode cX3_bring 12 = .ok (.invokevirtual 26, 3) := by decide +kernel
theorem dX3_bring_15 : decode cX3_bring 15 = .ok (.return_, 1) := by decide +kernel
theorem dX3_placeAt_0 : decode cX3_placeAt 0 = .ok (.iload_n 1, 1) := by decide +kernel
theorem dX3_placeAt_1 : decode cX3_placeAt 1 = .ok (.ifCond .lt 21, 3) := by decide +kernel
theorem dX3_placeAt_4 : decode cX3_placeAt 4 = .ok (.iload_n 1, 1) := by decide +kernel
theorem dX3_placeAt_5 : decode cX3_placeAt 5 = .ok (.aload_n 0, 1) := by decide +kernel
theorem dX3_placeAt_6 : decode cX3_placeAt 6 = .ok (.getfield 15, 3) := by decide +kernel
theorem dX3_placeAt_9 : decode cX3_placeAt 9 = .ok (.arraylength, 1) := by decide +kernel
theorem dX3_placeAt_10 : decode cX3_placeAt 10 = .ok (.if_icmp .ge 12, 3) := by decide +kernel
theorem dX3_placeAt_13 : decode cX3_placeAt 13 = .ok (.aload_n 0, 1) := by decide +kernel
theorem dX3_placeAt_14 : decode cX3_placeAt 14 = .ok (.getfield 15, 3) := by decide +kernel
theorem dX3_placeAt_17 : decode cX3_placeAt 17 = .ok (.iload_n 1, 1) := by decide +kernel
theorem dX3_placeAt_18 : decode cX3_placeAt 18 = .ok (.aaload, 1) := by decide +kernel
theorem dX3_placeAt_19 : decode cX3_placeAt 19 = .ok (.goto 4, 3) := by decide +kernel
theorem dX3_placeAt_22 : decode cX3_placeAt 22 = .ok (.aconst_null, 1) := by decide +kernel
theorem dX3_placeAt_23 : decode cX3_placeAt 23 = .ok (.areturn, 1) := by decide +kernel
theorem dX4_init_0 : decode cX4_init 0 = .ok (.aload_n 0, 1) := by decide +kernel
theorem dX4_init_1 : decode cX4_init 1 = .ok (.invokespecial 3, 3) := by decide +kernel
theorem dX4_init_4 : decode cX4_init 4 = .ok (.aload_n 0, 1) := by decide +kernel
theorem dX4_init_5 : decode cX4_init 5 = .ok (.new 9, 3) := by decide +kernel
theorem dX4_init_8 : decode cX4_init 8 = .ok (.dup, 1) := by decide +kernel
theorem dX4_init_9 : decode cX4_init 9 = .ok (.iconst 2, 1) := by decide +kernel
theorem dX4_init_10 : decode cX4_init 10 = .ok (.invokespecial 11, 3) := by decide +kernel
theorem dX4_init_13 : decode cX4_init 13 = .ok (.putfield 14, 3) := by decide +kernel
theorem dX4_init_16 : decode cX4_init 16 = .ok (.return_, 1) := by decide +kernel
theorem dX4_forgetAll_0 : decode cX4_forgetAll 0 = .ok (.aload_n 0, 1) := by decide +kernel
theorem dX4_forgetAll_1 : decode cX4_forgetAll 1 = .ok (.iconst 0, 1) := by decide +kernel
theorem dX4_forgetAll_2 : decode cX4_forgetAll 2 = .ok (.putfield 20, 3) := by decide +kernel
theorem dX4_forgetAll_5 : decode cX4_forgetAll 5 = .ok (.return_, 1) := by decide +kernel
theorem dX4_fill_0 : decode cX4_fill 0 = .ok (.aload_n 0, 1) := by decide +kernel
theorem dX4_fill_1 : decode cX4_fill 1 = .ok (.getfield 14, 3) := by decide +kernel
theorem dX4_fill_4 : decode cX4_fill 4 = .ok (.iload_n 1, 1) := by decide +kernel
theorem dX4_fill_5 : decode cX4_fill 5 = .ok (.aload_n 2, 1) := by decide +kernel
theorem dX4_fill_6 : decode cX4_fill 6 = .ok (.invokevirtual 24, 3) := by decide +kernel
theorem dX4_fill_9 : decode cX4_fill 9 = .ok (.aload_n 0, 1) := by decide +kernel
theorem dX4_fill_10 : decode cX4_fill 10 = .ok (.dup, 1) := by decide +kernel
theorem dX4_fill_11 : decode cX4_fill 11 = .ok (.getfield 20, 3) := by decide +kernel
theorem dX4_fill_14 : decode cX4_fill 14 = .ok (.iconst 1, 1) := by decide +kernel
theorem dX4_fill_15 : decode cX4_fill 15 = .ok (.iload_n 1, 1) := by decide +kernel
theorem dX4_fill_16 : decode cX4_fill 16 = .ok (.ishl, 1) := by decide +kernel
theorem dX4_fill_17 : decode cX4_fill 17 = .ok (.ior, 1) := by decide +kernel
theorem dX4_fill_18 : decode cX4_fill 18 = .ok (.putfield 20, 3) := by decide +kernel
theorem dX4_fill_21 : decode cX4_fill 21 = .ok (.return_, 1) := by decide +kernel
theorem dX4_fetch_0 : decode cX4_fetch 0 = .ok (.aload_n 0, 1) := by decide +kernel
theorem dX4_fetch_1 : decode cX4_fetch 1 = .ok (.getfield 20, 3) := by decide +kernel
theorem dX4_fetch_4 : decode cX4_fetch 4 = .ok (.iload_n 1, 1) := by decide +kernel
theorem dX4_fetch_5 : decode cX4_fetch 5 = .ok (.ishr, 1) := by decide +kernel
theorem dX4_fetch_6 : decode cX4_fetch 6 = .ok (.iconst 1, 1) := by decide +kernel
theorem dX4_fetch_7 : decode cX4_fetch 7 = .ok (.iand, 1) := by decide +kernel
theorem dX4_fetch_8 : decode cX4_fetch 8 = .ok (.ifCond .ne 5, 3) := by decide +kernel
theorem dX4_fetch_11 : decode cX4_fetch 11 = .ok (.iconst 0, 1) := by decide +kernel
theorem dX4_fetch_12 : decode cX4_fetch 12 = .ok (.ireturn, 1) := by decide +kernel
theorem dX4_fetch_13 : decode cX4_fetch 13 = .ok (.aload_n 0, 1) := by decide +kernel
theorem dX4_fetch_14 : decode cX4_fetch 14 = .ok (.getfield 14, 3) := by decide +kernel
theorem dX4_fetch_17 : decode cX4_fetch 17 = .ok (.iload_n 1, 1) := by decide +kernel
theorem dX4_fetch_18 : decode cX4_fetch 18 = .ok (.aload_n 2, 1) := by decide +kernel
theorem dX4_fetch_19 : decode cX4_fetch 19 = .ok (.invokevirtual 28, 3) := by decide +kernel
theorem dX4_fetch_22 : decode cX4_fetch 22 = .ok (.iconst 1, 1) := by decide +kernel
theorem dX4_fetch_23 : decode cX4_fetch 23 = .ok (.ireturn, 1) := by decide +kernel
theorem dX5_init_0 : decode cX5_init 0 = .ok (.aload_n 0, 1) := by decide +kernel
theorem dX5_init_1 : decode cX5_init 1 = .ok (.invokespecial 3, 3) := by decide +kernel
theorem dX5_init_4 : decode cX5_init 4 = .ok (.aload_n 0, 1) := by decide +kernel
theorem dX5_init_5 : decode cX5_init 5 = .ok (.bipush 8, 2) := by decide +kernel
theorem dX5_init_7 : decode cX5_init 7 = .ok (.newarray .int, 2) := by decide +kernel
theorem dX5_init_9 : decode cX5_init 9 = .ok (.putfield 9, 3) := by decide +kernel
theorem dX5_init_12 : decode cX5_init 12 = .ok (.return_, 1) := by decide +kernel
theorem dX5_layQuickPlan_0 : decode cX5_layQuickPlan 0 = .ok (.aload_n 0, 1) := by decide +kernel
theorem dX5_layQuickPlan_1 : decode cX5_layQuickPlan 1 = .ok (.aload_n 1, 1) := by decide +kernel
theorem dX5_layQuickPlan_2 : decode cX5_layQuickPlan 2 = .ok (.invokevirtual 15, 3) := by decide +kernel
theorem dX5_layQuickPlan_5 : decode cX5_layQuickPlan 5 = .ok (.aload_n 1, 1) := by decide +kernel
theorem dX5_layQuickPlan_6 : decode cX5_layQuickPlan 6 = .ok (.invokevirtual 19, 3) := by decide +kernel
theorem dX5_layQuickPlan_9 : decode cX5_layQuickPlan 9 = .ok (.iconst 1, 1) := by decide +kernel
theorem dX5_layQuickPlan_10 : decode cX5_layQuickPlan 10 = .ok (.istore_n 2, 1) := by decide +kernel
theorem dX5_layQuickPlan_11 : decode cX5_layQuickPlan 11 = .ok (.iload_n 2, 1) := by decide +kernel
theorem dX5_layQuickPlan_12 : decode cX5_layQuickPlan 12 = .ok (.aload_n 1, 1) := by decide +kernel
theorem dX5_layQuickPlan_13 : decode cX5_layQuickPlan 13 = .ok (.invokevirtual 24, 3) := by decide +kernel
theorem dX5_layQuickPlan_16 : decode cX5_layQuickPlan 16 = .ok (.if_icmp .ge 37, 3) := by decide +kernel
theorem dX5_layQuickPlan_19 : decode cX5_layQuickPlan 19 = .ok (.aload_n 0, 1) := by decide +kernel
theorem dX5_layQuickPlan_20 : decode cX5_layQuickPlan 20 = .ok (.aload_n 1, 1) := by decide +kernel
theorem dX5_layQuickPlan_21 : decode cX5_layQuickPlan 21 = .ok (.invokevirtual 28, 3) := by decide +kernel
theorem dX5_layQuickPlan_24 : decode cX5_layQuickPlan 24 = .ok (.istore_n 3, 1) := by decide +kernel
theorem dX5_layQuickPlan_25 : decode cX5_layQuickPlan 25 = .ok (.aload_n 0, 1) := by decide +kernel
theorem dX5_layQuickPlan_26 : decode cX5_layQuickPlan 26 = .ok (.aload_n 1, 1) := by decide +kernel
theorem dX5_layQuickPlan_27 : decode cX5_layQuickPlan 27 = .ok (.invokevirtual 32, 3) := by decide +kernel
theorem dX5_layQuickPlan_30 : decode cX5_layQuickPlan 30 = .ok (.istore 4, 2) := by decide +kernel
theorem dX5_layQuickPlan_32 : decode cX5_layQuickPlan 32 = .ok (.aload_n 0, 1) := by decide +kernel
theorem dX5_layQuickPlan_33 : decode cX5_layQuickPlan 33 = .ok (.aload_n 1, 1) := by decide +kernel
theorem dX5_layQuickPlan_34 : decode cX5_layQuickPlan 34 = .ok (.iload_n 3, 1) := by decide +kernel
theorem dX5_layQuickPlan_35 : decode cX5_layQuickPlan 35 = .ok (.iload 4, 2) := by decide +kernel
theorem dX5_layQuickPlan_37 : decode cX5_layQuickPlan 37 = .ok (.invokevirtual 35, 3) := by decide +kernel
theorem dX5_layQuickPlan_40 : decode cX5_layQuickPlan 40 = .ok (.aload_n 1, 1) := by decide +kernel
theorem dX5_layQuickPlan_41 : decode cX5_layQuickPlan 41 = .ok (.iload 4, 2) := by decide +kernel
theorem dX5_layQuickPlan_43 : decode cX5_layQuickPlan 43 = .ok (.iload_n 3, 1) := by decide +kernel
theorem dX5_layQuickPlan_44 : decode cX5_layQuickPlan 44 = .ok (.invokevirtual 39, 3) := by decide +kernel
theorem dX5_layQuickPlan_47 : decode cX5_layQuickPlan 47 = .ok (.iinc 2 1, 3) := by decide +kernel
theorem dX5_layQuickPlan_50 : decode cX5_layQuickPlan 50 = .ok (.goto (-39), 3) := by decide +kernel
theorem dX5_layQuickPlan_53 : decode cX5_layQuickPlan 53 = .ok (.return_, 1) := by decide +kernel
theorem dX5_leastLast_0 : decode cX5_leastLast 0 = .ok (.aload_n 1, 1) := by decide +kernel
theorem dX5_leastLast_1 : decode cX5_leastLast 1 = .ok (.invokevirtual 24, 3) := by decide +kernel
theorem dX5_leastLast_4 : decode cX5_leastLast 4 = .ok (.iconst 1, 1) := by decide +kernel
theorem dX5_leastLast_5 : decode cX5_leastLast 5 = .ok (.if_icmp .ne 5, 3) := by decide +kernel
theorem dX5_leastLast_8 : decode cX5_leastLast 8 = .ok (.iconst 0, 1) := by decide +kernel
theorem dX5_leastLast_9 : decode cX5_leastLast 9 = .ok (.ireturn, 1) := by decide +kernel
theorem dX5_leastLast_10 : decode cX5_leastLast 10 = .ok (.aload_n 0, 1) := by decide +kernel
theorem dX5_leastLast_11 : decode cX5_leastLast 11 = .ok (.aload_n 1, 1) := by decide +kernel
theorem dX5_leastLast_12 : decode cX5_leastLast 12 = .ok (.invokevirtual 15, 3) := by decide +kernel
theorem dX5_leastLast_15 : decode cX5_leastLast 15 = .ok (.aload_n 0, 1) := by decide +kernel
theorem dX5_leastLast_16 : decode cX5_leastLast 16 = .ok (.aload_n 1, 1) := by decide +kernel
theorem dX5_leastLast_17 : decode cX5_leastLast 17 = .ok (.aload_n 1, 1) := by decide +kernel
theorem dX5_leastLast_18 : decode cX5_leastLast 18 = .ok (.invokevirtual 24, 3) := by decide +kernel
theorem dX5_leastLast_21 : decode cX5_leastLast 21 = .ok (.iconst 1, 1) := by decide +kernel
theorem dX5_leastLast_22 : decode cX5_leastLast 22 = .ok (.isub, 1) := by decide +kernel
theorem dX5_leastLast_23 : decode cX5_leastLast 23 = .ok (.sipush 1000, 3) := by decide +kernel
theorem dX5_leastLast_26 : decode cX5_leastLast 26 = .ok (.invokevirtual 43, 3) := by decide +kernel
theorem dX5_leastLast_29 : decode cX5_leastLast 29 = .ok (.ireturn, 1) := by decide +kernel
theorem dX5_leastLastFrom_0 : decode cX5_leastLastFrom 0 = .ok (.aload_n 0, 1) := by decide +kernel
theorem dX5_leastLastFrom_1 : decode cX5_leastLastFrom 1 = .ok (.aload_n 1, 1) := by decide +kernel
theorem dX5_leastLastFrom_2 : decode cX5_leastLastFrom 2 = .ok (.invokevirtual 28, 3) := by decide +kernel
theorem dX5_leastLastFrom_5 : decode cX5_leastLastFrom 5 = .ok (.istore 4, 2) := by decide +kernel
theorem dX5_leastLastFrom_7 : decode cX5_leastLastFrom 7 = .ok (.aload_n 0, 1) := by decide +kernel
theorem dX5_leastLastFrom_8 : decode cX5_leastLastFrom 8 = .ok (.getfield 9, 3) := by decide +kernel
theorem dX5_leastLastFrom_11 : decode cX5_leastLastFrom 11 = .ok (.iload 4, 2) := by decide +kernel
theorem dX5_leastLastFrom_13 : decode cX5_leastLastFrom 13 = .ok (.invokestatic 47, 3) := by decide +kernel
theorem dX5_leastLastFrom_16 : decode cX5_leastLastFrom 16 = .ok (.istore 5, 2) := by decide +kernel
theorem dX5_leastLastFrom_18 : decode cX5_leastLastFrom 18 = .ok (.iload_n 2, 1) := by decide +kernel
theorem dX5_leastLastFrom_19 : decode cX5_leastLastFrom 19 = .ok (.iconst 1, 1) := by decide +kernel
theorem dX5_leastLastFrom_20 : decode cX5_leastLastFrom 20 = .ok (.if_icmp .le 9, 3) := by decide +kernel
theorem dX5_leastLastFrom_23 : decode cX5_leastLastFrom 23 = .ok (.iload 5, 2) := by decide +kernel
theorem dX5_leastLastFrom_25 : decode cX5_leastLastFrom 25 = .ok (.iload_n 3, 1) := by decide +kernel
theorem dX5_leastLastFrom_26 : decode cX5_leastLastFrom 26 = .ok (.if_icmp .lt 10, 3) := by decide +kernel
theorem dX5_leastLastFrom_29 : decode cX5_leastLastFrom 29 = .ok (.iload 5, 2) := by decide +kernel
theorem dX5_leastLastFrom_31 : decode cX5_leastLastFrom 31 = .ok (.iload_n 3, 1) := by decide +kernel
theorem dX5_leastLastFrom_32 : decode cX5_leastLastFrom 32 = .ok (.invokestatic 51, 3) := by decide +kernel
theorem dX5_leastLastFrom_35 : decode cX5_leastLastFrom 35 = .ok (.ireturn, 1) := by decide +kernel
theorem dX5_leastLastFrom_36 : decode cX5_leastLastFrom 36 = .ok (.iload_n 3, 1) := by decide +kernel
theorem dX5_leastLastFrom_37 : decode cX5_leastLastFrom 37 = .ok (.istore 6, 2) := by decide +kernel
theorem dX5_leastLastFrom_39 : decode cX5_leastLastFrom 39 = .ok (.iconst 1, 1) := by decide +kernel
theorem dX5_leastLastFrom_40 : decode cX5_leastLastFrom 40 = .ok (.istore 7, 2) := by decide +kernel
theorem dX5_leastLastFrom_42 : decode cX5_leastLastFrom 42 = .ok (.iload 7, 2) := by decide +kernel
theorem dX5_leastLastFrom_44 : decode cX5_leastLastFrom 44 = .ok (.aload_n 1, 1) := by decide +kernel
theorem dX5_leastLastFrom_45 : decode cX5_leastLastFrom 45 = .ok (.invokevirtual 24, 3) := by decide +kernel
theorem dX5_leastLastFrom_48 : decode cX5_leastLastFrom 48 = .ok (.if_icmp .ge 48, 3) := by decide +kernel
theorem dX5_leastLastFrom_51 : decode cX5_leastLastFrom 51 = .ok (.aload_n 0, 1) := by decide +kernel
theorem dX5_leastLastFrom_52 : decode cX5_leastLastFrom 52 = .ok (.iload 7, 2) := by decide +kernel
theorem dX5_leastLastFrom_54 : decode cX5_leastLastFrom 54 = .ok (.invokevirtual 57, 3) := by decide +kernel
theorem dX5_leastLastFrom_57 : decode cX5_leastLastFrom 57 = .ok (.ifCond .ne 33, 3) := by decide +kernel
theorem dX5_leastLastFrom_60 : decode cX5_leastLastFrom 60 = .ok (.aload_n 0, 1) := by decide +kernel
theorem dX5_leastLastFrom_61 : decode cX5_leastLastFrom 61 = .ok (.aload_n 1, 1) := by decide +kernel
theorem dX5_leastLastFrom_62 : decode cX5_leastLastFrom 62 = .ok (.iload 4, 2) := by decide +kernel
theorem dX5_leastLastFrom_64 : decode cX5_leastLastFrom 64 = .ok (.iload 7, 2) := by decide +kernel
theorem dX5_leastLastFrom_66 : decode cX5_leastLastFrom 66 = .ok (.invokevirtual 35, 3) := by decide +kernel
theorem dX5_leastLastFrom_69 : decode cX5_leastLastFrom 69 = .ok (.aload_n 0, 1) := by decide +kernel
theorem dX5_leastLastFrom_70 : decode cX5_leastLastFrom 70 = .ok (.aload_n 1, 1) := by decide +kernel
theorem dX5_leastLastFrom_71 : decode cX5_leastLastFrom 71 = .ok (.iload_n 2, 1) := by decide +kernel
theorem dX5_leastLastFrom_72 : decode cX5_leastLastFrom 72 = .ok (.iconst 1, 1) := by decide +kernel
theorem dX5_leastLastFrom_73 : decode cX5_leastLastFrom 73 = .ok (.isub, 1) := by decide +kernel
theorem dX5_leastLastFrom_74 : decode cX5_leastLastFrom 74 = .ok (.iload 6, 2) := by decide +kernel
theorem dX5_leastLastFrom_76 : decode cX5_leastLastFrom 76 = .ok (.invokevirtual 43, 3) := by decide +kernel
theorem dX5_leastLastFrom_79 : decode cX5_leastLastFrom 79 = .ok (.istore 6, 2) := by decide +kernel
theorem dX5_leastLastFrom_81 : decode cX5_leastLastFrom 81 = .ok (.aload_n 0, 1) := by decide +kernel
theorem dX5_leastLastFrom_82 : decode cX5_leastLastFrom 82 = .ok (.aload_n 1, 1) := by decide +kernel
theorem dX5_leastLastFrom_83 : decode cX5_leastLastFrom 83 = .ok (.iload 4, 2) := by decide +kernel
theorem dX5_leastLastFrom_85 : decode cX5_leastLastFrom 85 = .ok (.iload 7, 2) := by decide +kernel
theorem dX5_leastLastFrom_87 : decode cX5_leastLastFrom 87 = .ok (.invokevirtual 61, 3) := by decide +kernel
theorem dX5_leastLastFrom_90 : decode cX5_leastLastFrom 90 = .ok (.iinc 7 1, 3) := by decide +kernel
theorem dX5_leastLastFrom_93 : decode cX5_leastLastFrom 93 = .ok (.goto (-51), 3) := by decide +kernel
theorem dX5_leastLastFrom_96 : decode cX5_leastLastFrom 96 = .ok (.iload 6, 2) := by decide +kernel
theorem dX5_leastLastFrom_98 : decode cX5_leastLastFrom 98 = .ok (.ireturn, 1) := by decide +kernel
theorem dX5_begin_0 : decode cX5_begin 0 = .ok (.aload_n 0, 1) := by decide +kernel
theorem dX5_begin_1 : decode cX5_begin 1 = .ok (.iconst 1, 1) := by decide +kernel
theorem dX5_begin_2 : decode cX5_begin 2 = .ok (.putfield 64, 3) := by decide +kernel
theorem dX5_begin_5 : decode cX5_begin 5 = .ok (.aload_n 0, 1) := by decide +kernel
theorem dX5_begin_6 : decode cX5_begin 6 = .ok (.getfield 9, 3) := by decide +kernel
theorem dX5_begin_9 : decode cX5_begin 9 = .ok (.iconst 0, 1) := by decide +kernel
theorem dX5_begin_10 : decode cX5_begin 10 = .ok (.aload_n 1, 1) := by decide +kernel
theorem dX5_begin_11 : decode cX5_begin 11 = .ok (.iconst 0, 1) := by decide +kernel
theorem dX5_begin_12 : decode cX5_begin 12 = .ok (.invokevirtual 68, 3) := by decide +kernel
theorem dX5_begin_15 : decode cX5_begin 15 = .ok (.invokestatic 72, 3) := by decide +kernel
theorem dX5_begin_18 : decode cX5_begin 18 = .ok (.return_, 1) := by decide +kernel
theorem dX5_isKnower_0 : decode cX5_isKnower 0 = .ok (.aload_n 0, 1) := by decide +kernel
theorem dX5_isKnower_1 : decode cX5_isKnower 1 = .ok (.getfield 64, 3) := by decide +kernel
theorem dX5_isKnower_4 : decode cX5_isKnower 4 = .ok (.iload_n 1, 1) := by decide +kernel
theorem dX5_isKnower_5 : decode cX5_isKnower 5 = .ok (.ishr, 1) := by decide +kernel
theorem dX5_isKnower_6 : decode cX5_isKnower 6 = .ok (.iconst 1, 1) := by decide +kernel
theorem dX5_isKnower_7 : decode cX5_isKnower 7 = .ok (.iand, 1) := by decide +kernel
theorem dX5_isKnower_8 : decode cX5_isKnower 8 = .ok (.ifCond .eq 7, 3) := by decide +kernel
theorem dX5_isKnower_11 : decode cX5_isKnower 11 = .ok (.iconst 1, 1) := by decide +kernel
theorem dX5_isKnower_12 : decode cX5_isKnower 12 = .ok (.goto 4, 3) := by decide +kernel
theorem dX5_isKnower_15 : decode cX5_isKnower 15 = .ok (.iconst 0, 1) := by decide +kernel
theorem dX5_isKnower_16 : decode cX5_isKnower 16 = .ok (.ireturn, 1) := by decide +kernel
theorem dX5_soonest_0 : decode cX5_soonest 0 = .ok (.iconst 0, 1) := by decide +kernel
theorem dX5_soonest_1 : decode cX5_soonest 1 = .ok (.istore_n 2, 1) := by decide +kernel
theorem dX5_soonest_2 : decode cX5_soonest 2 = .ok (.iconst 1, 1) := by decide +kernel
theorem dX5_soonest_3 : decode cX5_soonest 3 = .ok (.istore_n 3, 1) := by decide +kernel
theorem dX5_soonest_4 : decode cX5_soonest 4 = .ok (.iload_n 3, 1) := by decide +kernel
theorem dX5_soonest_5 : decode cX5_soonest 5 = .ok (.aload_n 1, 1) := by decide +kernel
theorem dX5_soonest_6 : decode cX5_soonest 6 = .ok (.invokevirtual 24, 3) := by decide +kernel
theorem dX5_soonest_9 : decode cX5_soonest 9 = .ok (.if_icmp .ge 38, 3) := by decide +kernel
theorem dX5_soonest_12 : decode cX5_soonest 12 = .ok (.aload_n 0, 1) := by decide +kernel
theorem dX5_soonest_13 : decode cX5_soonest 13 = .ok (.iload_n 3, 1) := by decide +kernel
theorem dX5_soonest_14 : decode cX5_soonest 14 = .ok (.invokevirtual 57, 3) := by decide +kernel
theorem dX5_soonest_17 : decode cX5_soonest 17 = .ok (.ifCond .eq 24, 3) := by decide +kernel
theorem dX5_soonest_20 : decode cX5_soonest 20 = .ok (.aload_n 0, 1) := by decide +kernel
theorem dX5_soonest_21 : decode cX5_soonest 21 = .ok (.getfield 9, 3) := by decide +kernel
theorem dX5_soonest_24 : decode cX5_soonest 24 = .ok (.iload_n 3, 1) := by decide +kernel
theorem dX5_soonest_25 : decode cX5_soonest 25 = .ok (.invokestatic 47, 3) := by decide +kernel
theorem dX5_soonest_28 : decode cX5_soonest 28 = .ok (.aload_n 0, 1) := by decide +kernel
theorem dX5_soonest_29 : decode cX5_soonest 29 = .ok (.getfield 9, 3) := by decide +kernel
theorem dX5_soonest_32 : decode cX5_soonest 32 = .ok (.iload_n 2, 1) := by decide +kernel
theorem dX5_soonest_33 : decode cX5_soonest 33 = .ok (.invokestatic 47, 3) := by decide +kernel
theorem dX5_soonest_36 : decode cX5_soonest 36 = .ok (.if_icmp .ge 5, 3) := by decide +kernel
theorem dX5_soonest_39 : decode cX5_soonest 39 = .ok (.iload_n 3, 1) := by decide +kernel
theorem dX5_soonest_40 : decode cX5_soonest 40 = .ok (.istore_n 2, 1) := by decide +kernel
theorem dX5_soonest_41 : decode cX5_soonest 41 = .ok (.iinc 3 1, 3) := by decide +kernel
theorem dX5_soonest_44 : decode cX5_soonest 44 = .ok (.goto (-40), 3) := by decide +kernel
theorem dX5_soonest_47 : decode cX5_soonest 47 = .ok (.iload_n 2, 1) := by decide +kernel
theorem dX5_soonest_48 : decode cX5_soonest 48 = .ok (.ireturn, 1) := by decide +kernel
theorem dX5_leastDelayed_0 : decode cX5_leastDelayed 0 = .ok (.iconst 0, 1) := by decide +kernel
theorem dX5_leastDelayed_1 : decode cX5_leastDelayed 1 = .ok (.istore_n 2, 1) := by decide +kernel
theorem dX5_leastDelayed_2 : decode cX5_leastDelayed 2 = .ok (.iconst 1, 1) := by decide +kernel
theorem dX5_leastDelayed_3 : decode cX5_leastDelayed 3 = .ok (.istore_n 3, 1) := by decide +kernel
theorem dX5_leastDelayed_4 : decode cX5_leastDelayed 4 = .ok (.iload_n 3, 1) := by decide +kernel
theorem dX5_leastDelayed_5 : decode cX5_leastDelayed 5 = .ok (.aload_n 1, 1) := by decide +kernel
theorem dX5_leastDelayed_6 : decode cX5_leastDelayed 6 = .ok (.invokevirtual 24, 3) := by decide +kernel
theorem dX5_leastDelayed_9 : decode cX5_leastDelayed 9 = .ok (.if_icmp .ge 32, 3) := by decide +kernel
theorem dX5_leastDelayed_12 : decode cX5_leastDelayed 12 = .ok (.aload_n 0, 1) := by decide +kernel
theorem dX5_leastDelayed_13 : decode cX5_leastDelayed 13 = .ok (.iload_n 3, 1) := by decide +kernel
theorem dX5_leastDelayed_14 : decode cX5_leastDelayed 14 = .ok (.invokevirtual 57, 3) := by decide +kernel
theorem dX5_leastDelayed_17 : decode cX5_leastDelayed 17 = .ok (.ifCond .ne 18, 3) := by decide +kernel
theorem dX5_leastDelayed_20 : decode cX5_leastDelayed 20 = .ok (.iload_n 2, 1) := by decide +kernel
theorem dX5_leastDelayed_21 : decode cX5_leastDelayed 21 = .ok (.ifCond .eq 12, 3) := by decide +kernel
theorem dX5_leastDelayed_24 : decode cX5_leastDelayed 24 = .ok (.aload_n 1, 1) := by decide +kernel
theorem dX5_leastDelayed_25 : decode cX5_leastDelayed 25 = .ok (.iload_n 3, 1) := by decide +kernel
theorem dX5_leastDelayed_26 : decode cX5_leastDelayed 26 = .ok (.iload_n 2, 1) := by decide +kernel
theorem dX5_leastDelayed_27 : decode cX5_leastDelayed 27 = .ok (.invokestatic 76, 3) := by decide +kernel
theorem dX5_leastDelayed_30 : decode cX5_leastDelayed 30 = .ok (.ifCond .eq 5, 3) := by decide +kernel
theorem dX5_leastDelayed_33 : decode cX5_leastDelayed 33 = .ok (.iload_n 3, 1) := by decide +kernel
theorem dX5_leastDelayed_34 : decode cX5_leastDelayed 34 = .ok (.istore_n 2, 1) := by decide +kernel
theorem dX5_leastDelayed_35 : decode cX5_leastDelayed 35 = .ok (.iinc 3 1, 3) := by decide +kernel
theorem dX5_leastDelayed_38 : decode cX5_leastDelayed 38 = .ok (.goto (-34), 3) := by decide +kernel
theorem dX5_leastDelayed_41 : decode cX5_leastDelayed 41 = .ok (.iload_n 2, 1) := by decide +kernel
theorem dX5_leastDelayed_42 : decode cX5_leastDelayed 42 = .ok (.ireturn, 1) := by decide +kernel
theorem dX5_isLessDelayed_0 : decode cX5_isLessDelayed 0 = .ok (.aload_n 0, 1) := by decide +kernel
theorem dX5_isLessDelayed_1 : decode cX5_isLessDelayed 1 = .ok (.iload_n 1, 1) := by decide +kernel
theorem dX5_isLessDelayed_2 : decode cX5_isLessDelayed 2 = .ok (.invokevirtual 68, 3) := by decide +kernel
theorem dX5_isLessDelayed_5 : decode cX5_isLessDelayed 5 = .ok (.aload_n 0, 1) := by decide +kernel
theorem dX5_isLessDelayed_6 : decode cX5_isLessDelayed 6 = .ok (.iload_n 2, 1) := by decide +kernel
theorem dX5_isLessDelayed_7 : decode cX5_isLessDelayed 7 = .ok (.invokevirtual 68, 3) := by decide +kernel
theorem dX5_isLessDelayed_10 : decode cX5_isLessDelayed 10 = .ok (.if_icmp .eq 22, 3) := by decide +kernel
theorem dX5_isLessDelayed_13 : decode cX5_isLessDelayed 13 = .ok (.aload_n 0, 1) := by decide +kernel
theorem dX5_isLessDelayed_14 : decode cX5_isLessDelayed 14 = .ok (.iload_n 1, 1) := by decide +kernel
theorem dX5_isLessDelayed_15 : decode cX5_isLessDelayed 15 = .ok (.invokevirtual 68, 3) := by decide +kernel
theorem dX5_isLessDelayed_18 : decode cX5_isLessDelayed 18 = .ok (.aload_n 0, 1) := by decide +kernel
theorem dX5_isLessDelayed_19 : decode cX5_isLessDelayed 19 = .ok (.iload_n 2, 1) := by decide +kernel
theorem dX5_isLessDelayed_20 : decode cX5_isLessDelayed 20 = .ok (.invokevirtual 68, 3) := by decide +kernel
theorem dX5_isLessDelayed_23 : decode cX5_isLessDelayed 23 = .ok (.if_icmp .ge 7, 3) := by decide +kernel
theorem dX5_isLessDelayed_26 : decode cX5_isLessDelayed 26 = .ok (.iconst 1, 1) := by decide +kernel
theorem dX5_isLessDelayed_27 : decode cX5_isLessDelayed 27 = .ok (.goto 4, 3) := by decide +kernel
theorem dX5_isLessDelayed_30 : decode cX5_isLessDelayed 30 = .ok (.iconst 0, 1) := by decide +kernel
theorem dX5_isLessDelayed_31 : decode cX5_isLessDelayed 31 = .ok (.ireturn, 1) := by decide +kernel
theorem dX5_isLessDelayed_32 : decode cX5_isLessDelayed 32 = .ok (.aload_n 0, 1) := by decide +kernel
theorem dX5_isLessDelayed_33 : decode cX5_isLessDelayed 33 = .ok (.iload_n 1, 1) := by decide +kernel
theorem dX5_isLessDelayed_34 : decode cX5_isLessDelayed 34 = .ok (.invokevirtual 80, 3) := by decide +kernel
theorem dX5_isLessDelayed_37 : decode cX5_isLessDelayed 37 = .ok (.aload_n 0, 1) := by decide +kernel
theorem dX5_isLessDelayed_38 : decode cX5_isLessDelayed 38 = .ok (.iload_n 2, 1) := by decide +kernel
theorem dX5_isLessDelayed_39 : decode cX5_isLessDelayed 39 = .ok (.invokevirtual 80, 3) := by decide +kernel
theorem dX5_isLessDelayed_42 : decode cX5_isLessDelayed 42 = .ok (.if_icmp .ge 7, 3) := by decide +kernel
theorem dX5_isLessDelayed_45 : decode cX5_isLessDelayed 45 = .ok (.iconst 1, 1) := by decide +kernel
theorem dX5_isLessDelayed_46 : decode cX5_isLessDelayed 46 = .ok (.goto 4, 3) := by decide +kernel
theorem dX5_isLessDelayed_49 : decode cX5_isLessDelayed 49 = .ok (.iconst 0, 1) := by decide +kernel
theorem dX5_isLessDelayed_50 : decode cX5_isLessDelayed 50 = .ok (.ireturn, 1) := by decide +kernel
theorem dX5_tell_0 : decode cX5_tell 0 = .ok (.aload_n 0, 1) := by decide +kernel
theorem dX5_tell_1 : decode cX5_tell 1 = .ok (.getfield 9, 3) := by decide +kernel
theorem dX5_tell_4 : decode cX5_tell 4 = .ok (.iload_n 2, 1) := by decide +kernel
theorem dX5_tell_5 : decode cX5_tell 5 = .ok (.invokestatic 47, 3) := by decide +kernel
theorem dX5_tell_8 : decode cX5_tell 8 = .ok (.istore 4, 2) := by decide +kernel
theorem dX5_tell_10 : decode cX5_tell 10 = .ok (.aload_n 0, 1) := by decide +kernel
theorem dX5_tell_11 : decode cX5_tell 11 = .ok (.getfield 9, 3) := by decide +kernel
theorem dX5_tell_14 : decode cX5_tell 14 = .ok (.iload_n 2, 1) := by decide +kernel
theorem dX5_tell_15 : decode cX5_tell 15 = .ok (.iload 4, 2) := by decide +kernel
theorem dX5_tell_17 : decode cX5_tell 17 = .ok (.aload_n 1, 1) := by decide +kernel
theorem dX5_tell_18 : decode cX5_tell 18 = .ok (.iload_n 2, 1) := by decide +kernel
theorem dX5_tell_19 : decode cX5_tell 19 = .ok (.invokevirtual 80, 3) := by decide +kernel
theorem dX5_tell_22 : decode cX5_tell 22 = .ok (.iadd, 1) := by decide +kernel
theorem dX5_tell_23 : decode cX5_tell 23 = .ok (.invokestatic 72, 3) := by decide +kernel
theorem dX5_tell_26 : decode cX5_tell 26 = .ok (.aload_n 0, 1) := by decide +kernel
theorem dX5_tell_27 : decode cX5_tell 27 = .ok (.getfield 9, 3) := by decide +kernel
theorem dX5_tell_30 : decode cX5_tell 30 = .ok (.iload_n 3, 1) := by decide +kernel
theorem dX5_tell_31 : decode cX5_tell 31 = .ok (.iload 4, 2) := by decide +kernel
theorem dX5_tell_33 : decode cX5_tell 33 = .ok (.aload_n 1, 1) := by decide +kernel
theorem dX5_tell_34 : decode cX5_tell 34 = .ok (.iload_n 3, 1) := by decide +kernel
theorem dX5_tell_35 : decode cX5_tell 35 = .ok (.invokevirtual 68, 3) := by decide +kernel
theorem dX5_tell_38 : decode cX5_tell 38 = .ok (.iadd, 1) := by decide +kernel
theorem dX5_tell_39 : decode cX5_tell 39 = .ok (.invokestatic 72, 3) := by decide +kernel
theorem dX5_tell_42 : decode cX5_tell 42 = .ok (.aload_n 0, 1) := by decide +kernel
theorem dX5_tell_43 : decode cX5_tell 43 = .ok (.dup, 1) := by decide +kernel
theorem dX5_tell_44 : decode cX5_tell 44 = .ok (.getfield 64, 3) := by decide +kernel
theorem dX5_tell_47 : decode cX5_tell 47 = .ok (.iconst 1, 1) := by decide +kernel
theorem dX5_tell_48 : decode cX5_tell 48 = .ok (.iload_n 3, 1) := by decide +kernel
theorem dX5_tell_49 : decode cX5_tell 49 = .ok (.ishl, 1) := by decide +kernel
theorem dX5_tell_50 : decode cX5_tell 50 = .ok (.ior, 1) := by decide +kernel
theorem dX5_tell_51 : decode cX5_tell 51 = .ok (.putfield 64, 3) := by decide +kernel
theorem dX5_tell_54 : decode cX5_tell 54 = .ok (.return_, 1) := by decide +kernel
theorem dX5_takeBack_0 : decode cX5_takeBack 0 = .ok (.aload_n 0, 1) := by decide +kernel
theorem dX5_takeBack_1 : decode cX5_takeBack 1 = .ok (.getfield 9, 3) := by decide +kernel
theorem dX5_takeBack_4 : decode cX5_takeBack 4 = .ok (.iload_n 2, 1) := by decide +kernel
theorem dX5_takeBack_5 : decode cX5_takeBack 5 = .ok (.aload_n 0, 1) := by decide +kernel
theorem dX5_takeBack_6 : decode cX5_takeBack 6 = .ok (.getfield 9, 3) := by decide +kernel
theorem dX5_takeBack_9 : decode cX5_takeBack 9 = .ok (.iload_n 2, 1) := by decide +kernel
theorem dX5_takeBack_10 : decode cX5_takeBack 10 = .ok (.invokestatic 47, 3) := by decide +kernel
theorem dX5_takeBack_13 : decode cX5_takeBack 13 = .ok (.aload_n 1, 1) := by decide +kernel
theorem dX5_takeBack_14 : decode cX5_takeBack 14 = .ok (.iload_n 2, 1) := by decide +kernel
theorem dX5_takeBack_15 : decode cX5_takeBack 15 = .ok (.invokevirtual 80, 3) := by decide +kernel
theorem dX5_takeBack_18 : decode cX5_takeBack 18 = .ok (.isub, 1) := by decide +kernel
theorem dX5_takeBack_19 : decode cX5_takeBack 19 = .ok (.invokestatic 72, 3) := by decide +kernel
theorem dX5_takeBack_22 : decode cX5_takeBack 22 = .ok (.aload_n 0, 1) := by decide +kernel
theorem dX5_takeBack_23 : decode cX5_takeBack 23 = .ok (.dup, 1) := by decide +kernel
theorem dX5_takeBack_24 : decode cX5_takeBack 24 = .ok (.getfield 64, 3) := by decide +kernel
theorem dX5_takeBack_27 : decode cX5_takeBack 27 = .ok (.iconst 1, 1) := by decide +kernel
theorem dX5_takeBack_28 : decode cX5_takeBack 28 = .ok (.iload_n 3, 1) := by decide +kernel
theorem dX5_takeBack_29 : decode cX5_takeBack 29 = .ok (.ishl, 1) := by decide +kernel
theorem dX5_takeBack_30 : decode cX5_takeBack 30 = .ok (.iconst (-1), 1) := by decide +kernel
theorem dX5_takeBack_31 : decode cX5_takeBack 31 = .ok (.ixor, 1) := by decide +kernel
theorem dX5_takeBack_32 : decode cX5_takeBack 32 = .ok (.iand, 1) := by decide +kernel
theorem dX5_takeBack_33 : decode cX5_takeBack 33 = .ok (.putfield 64, 3) := by decide +kernel
theorem dX5_takeBack_36 : decode cX5_takeBack 36 = .ok (.return_, 1) := by decide +kernel
theorem dX6_init_0 : decode cX6_init 0 = .ok (.aload_n 0, 1) := by decide +kernel
theorem dX6_init_1 : decode cX6_init 1 = .ok (.invokespecial 3, 3) := by decide +kernel
theorem dX6_init_4 : decode cX6_init 4 = .ok (.aload_n 0, 1) := by decide +kernel
theorem dX6_init_5 : decode cX6_init 5 = .ok (.bipush 8, 2) := by decide +kernel
theorem dX6_init_7 : decode cX6_init 7 = .ok (.newarray .int, 2) := by decide +kernel
theorem dX6_init_9 : decode cX6_init 9 = .ok (.putfield 9, 3) := by decide +kernel
theorem dX6_init_12 : decode cX6_init 12 = .ok (.aload_n 0, 1) := by decide +kernel
theorem dX6_init_13 : decode cX6_init 13 = .ok (.bipush 8, 2) := by decide +kernel
theorem dX6_init_15 : decode cX6_init 15 = .ok (.newarray .int, 2) := by decide +kernel
theorem dX6_init_17 : decode cX6_init 17 = .ok (.putfield 15, 3) := by decide +kernel
theorem dX6_init_20 : decode cX6_init 20 = .ok (.aload_n 0, 1) := by decide +kernel
theorem dX6_init_21 : decode cX6_init 21 = .ok (.bipush 8, 2) := by decide +kernel
theorem dX6_init_23 : decode cX6_init 23 = .ok (.newarray .int, 2) := by decide +kernel
theorem dX6_init_25 : decode cX6_init 25 = .ok (.putfield 18, 3) := by decide +kernel
theorem dX6_init_28 : decode cX6_init 28 = .ok (.aload_n 0, 1) := by decide +kernel
theorem dX6_init_29 : decode cX6_init 29 = .ok (.bipush 8, 2) := by decide +kernel
theorem dX6_init_31 : decode cX6_init 31 = .ok (.newarray .int, 2) := by decide +kernel
theorem dX6_init_33 : decode cX6_init 33 = .ok (.putfield 21, 3) := by decide +kernel
theorem dX6_init_36 : decode cX6_init 36 = .ok (.aload_n 0, 1) := by decide +kernel
theorem dX6_init_37 : decode cX6_init 37 = .ok (.iconst 1, 1) := by decide +kernel
theorem dX6_init_38 : decode cX6_init 38 = .ok (.putfield 24, 3) := by decide +kernel
theorem dX6_init_41 : decode cX6_init 41 = .ok (.aload_n 0, 1) := by decide +kernel
theorem dX6_init_42 : decode cX6_init 42 = .ok (.iconst 1, 1) := by decide +kernel
theorem dX6_init_43 : decode cX6_init 43 = .ok (.putfield 28, 3) := by decide +kernel
theorem dX6_init_46 : decode cX6_init 46 = .ok (.aload_n 0, 1) := by decide +kernel
theorem dX6_init_47 : decode cX6_init 47 = .ok (.getfield 9, 3) := by decide +kernel
theorem dX6_init_50 : decode cX6_init 50 = .ok (.iconst 0, 1) := by decide +kernel
theorem dX6_init_51 : decode cX6_init 51 = .ok (.iconst 1, 1) := by decide +kernel
theorem dX6_init_52 : decode cX6_init 52 = .ok (.iastore, 1) := by decide +kernel
theorem dX6_init_53 : decode cX6_init 53 = .ok (.aload_n 0, 1) := by decide +kernel
theorem dX6_init_54 : decode cX6_init 54 = .ok (.getfield 15, 3) := by decide +kernel
theorem dX6_init_57 : decode cX6_init 57 = .ok (.iconst 0, 1) := by decide +kernel
theorem dX6_init_58 : decode cX6_init 58 = .ok (.iconst 1, 1) := by decide +kernel
theorem dX6_init_59 : decode cX6_init 59 = .ok (.iastore, 1) := by decide +kernel
theorem dX6_init_60 : decode cX6_init 60 = .ok (.aload_n 0, 1) := by decide +kernel
theorem dX6_init_61 : decode cX6_init 61 = .ok (.getfield 18, 3) := by decide +kernel
theorem dX6_init_64 : decode cX6_init 64 = .ok (.iconst 0, 1) := by decide +kernel
theorem dX6_init_65 : decode cX6_init 65 = .ok (.bipush (-9), 2) := by decide +kernel
theorem dX6_init_67 : decode cX6_init 67 = .ok (.iastore, 1) := by decide +kernel
theorem dX6_init_68 : decode cX6_init 68 = .ok (.return_, 1) := by decide +kernel
theorem dX6_become_0 : decode cX6_become 0 = .ok (.aload_n 0, 1) := by decide +kernel
theorem dX6_become_1 : decode cX6_become 1 = .ok (.aload_n 1, 1) := by decide +kernel
theorem dX6_become_2 : decode cX6_become 2 = .ok (.getfield 24, 3) := by decide +kernel
theorem dX6_become_5 : decode cX6_become 5 = .ok (.putfield 24, 3) := by decide +kernel
theorem dX6_become_8 : decode cX6_become 8 = .ok (.aload_n 0, 1) := by decide +kernel
theorem dX6_become_9 : decode cX6_become 9 = .ok (.aload_n 1, 1) := by decide +kernel
theorem dX6_become_10 : decode cX6_become 10 = .ok (.getfield 28, 3) := by decide +kernel
theorem dX6_become_13 : decode cX6_become 13 = .ok (.putfield 28, 3) := by decide +kernel
theorem dX6_become_16 : decode cX6_become 16 = .ok (.aload_n 0, 1) := by decide +kernel
theorem dX6_become_17 : decode cX6_become 17 = .ok (.aload_n 1, 1) := by decide +kernel
theorem dX6_become_18 : decode cX6_become 18 = .ok (.getfield 31, 3) := by decide +kernel
theorem dX6_become_21 : decode cX6_become 21 = .ok (.putfield 31, 3) := by decide +kernel
theorem dX6_become_24 : decode cX6_become 24 = .ok (.aload_n 1, 1) := by decide +kernel
theorem dX6_become_25 : decode cX6_become 25 = .ok (.getfield 9, 3) := by decide +kernel
theorem dX6_become_28 : decode cX6_become 28 = .ok (.iconst 0, 1) := by decide +kernel
theorem dX6_become_29 : decode cX6_become 29 = .ok (.aload_n 0, 1) := by decide +kernel
theorem dX6_become_30 : decode cX6_become 30 = .ok (.getfield 9, 3) := by decide +kernel
theorem dX6_become_33 : decode cX6_become 33 = .ok (.iconst 0, 1) := by decide +kernel
theorem dX6_become_34 : decode cX6_become 34 = .ok (.bipush 8, 2) := by decide +kernel
theorem dX6_become_36 : decode cX6_become 36 = .ok (.invokestatic 34, 3) := by decide +kernel
theorem dX6_become_39 : decode cX6_become 39 = .ok (.aload_n 1, 1) := by decide +kernel
theorem dX6_become_40 : decode cX6_become 40 = .ok (.getfield 15, 3) := by decide +kernel
theorem dX6_become_43 : decode cX6_become 43 = .ok (.iconst 0, 1) := by decide +kernel
theorem dX6_become_44 : decode cX6_become 44 = .ok (.aload_n 0, 1) := by decide +kernel
theorem dX6_become_45 : decode cX6_become 45 = .ok (.getfield 15, 3) := by decide +kernel
theorem dX6_become_48 : decode cX6_become 48 = .ok (.iconst 0, 1) := by decide +kernel
theorem dX6_become_49 : decode cX6_become 49 = .ok (.bipush 8, 2) := by decide +kernel
theorem dX6_become_51 : decode cX6_become 51 = .ok (.invokestatic 34, 3) := by decide +kernel
theorem dX6_become_54 : decode cX6_become 54 = .ok (.aload_n 1, 1) := by decide +kernel
theorem dX6_become_55 : decode cX6_become 55 = .ok (.getfield 18, 3) := by decide +kernel
theorem dX6_become_58 : decode cX6_become 58 = .ok (.iconst 0, 1) := by decide +kernel
theorem dX6_become_59 : decode cX6_become 59 = .ok (.aload_n 0, 1) := by decide +kernel
theorem dX6_become_60 : decode cX6_become 60 = .ok (.getfield 18, 3) := by decide +kernel
theorem dX6_become_63 : decode cX6_become 63 = .ok (.iconst 0, 1) := by decide +kernel
theorem dX6_become_64 : decode cX6_become 64 = .ok (.bipush 8, 2) := by decide +kernel
theorem dX6_become_66 : decode cX6_become 66 = .ok (.invokestatic 34, 3) := by decide +kernel
theorem dX6_become_69 : decode cX6_become 69 = .ok (.aload_n 1, 1) := by decide +kernel
theorem dX6_become_70 : decode cX6_become 70 = .ok (.getfield 21, 3) := by decide +kernel
theorem dX6_become_73 : decode cX6_become 73 = .ok (.iconst 0, 1) := by decide +kernel
theorem dX6_become_74 : decode cX6_become 74 = .ok (.aload_n 0, 1) := by decide +kernel
theorem dX6_become_75 : decode cX6_become 75 = .ok (.getfield 21, 3) := by decide +kernel
theorem dX6_become_78 : decode cX6_become 78 = .ok (.iconst 0, 1) := by decide +kernel
theorem dX6_become_79 : decode cX6_become 79 = .ok (.bipush 8, 2) := by decide +kernel
theorem dX6_become_81 : decode cX6_become 81 = .ok (.invokestatic 34, 3) := by decide +kernel
theorem dX6_become_84 : decode cX6_become 84 = .ok (.return_, 1) := by decide +kernel
theorem dX6_startWith_0 : decode cX6_startWith 0 = .ok (.aload_n 0, 1) := by decide +kernel
theorem dX6_startWith_1 : decode cX6_startWith 1 = .ok (.iload_n 1, 1) := by decide +kernel
theorem dX6_startWith_2 : decode cX6_startWith 2 = .ok (.putfield 24, 3) := by decide +kernel
theorem dX6_startWith_5 : decode cX6_startWith 5 = .ok (.aload_n 0, 1) := by decide +kernel
theorem dX6_startWith_6 : decode cX6_startWith 6 = .ok (.iload_n 2, 1) := by decide +kernel
theorem dX6_startWith_7 : decode cX6_startWith 7 = .ok (.putfield 28, 3) := by decide +kernel
theorem dX6_startWith_10 : decode cX6_startWith 10 = .ok (.aload_n 0, 1) := by decide +kernel
theorem dX6_startWith_11 : decode cX6_startWith 11 = .ok (.iconst 0, 1) := by decide +kernel
theorem dX6_startWith_12 : decode cX6_startWith 12 = .ok (.putfield 31, 3) := by decide +kernel
theorem dX6_startWith_15 : decode cX6_startWith 15 = .ok (.return_, 1) := by decide +kernel
theorem dX6_emptyPlan_0 : decode cX6_emptyPlan 0 = .ok (.aload_n 0, 1) := by decide +kernel
theorem dX6_emptyPlan_1 : decode cX6_emptyPlan 1 = .ok (.iconst 0, 1) := by decide +kernel
theorem dX6_emptyPlan_2 : decode cX6_emptyPlan 2 = .ok (.putfield 31, 3) := by decide +kernel
theorem dX6_emptyPlan_5 : decode cX6_emptyPlan 5 = .ok (.return_, 1) := by decide +kernel
theorem dX6_putLast_0 : decode cX6_putLast 0 = .ok (.aload_n 0, 1) := by decide +kernel
theorem dX6_putLast_1 : decode cX6_putLast 1 = .ok (.getfield 21, 3) := by decide +kernel
theorem dX6_putLast_4 : decode cX6_putLast 4 = .ok (.aload_n 0, 1) := by decide +kernel
theorem dX6_putLast_5 : decode cX6_putLast 5 = .ok (.getfield 31, 3) := by decide +kernel
theorem dX6_putLast_8 : decode cX6_putLast 8 = .ok (.iload_n 1, 1) := by decide +kernel
theorem dX6_putLast_9 : decode cX6_putLast 9 = .ok (.invokestatic 40, 3) := by decide +kernel
theorem dX6_putLast_12 : decode cX6_putLast 12 = .ok (.aload_n 0, 1) := by decide +kernel
theorem dX6_putLast_13 : decode cX6_putLast 13 = .ok (.getfield 18, 3) := by decide +kernel
theorem dX6_putLast_16 : decode cX6_putLast 16 = .ok (.iload_n 1, 1) := by decide +kernel
theorem dX6_putLast_17 : decode cX6_putLast 17 = .ok (.iload_n 2, 1) := by decide +kernel
theorem dX6_putLast_18 : decode cX6_putLast 18 = .ok (.invokestatic 40, 3) := by decide +kernel
theorem dX6_putLast_21 : decode cX6_putLast 21 = .ok (.aload_n 0, 1) := by decide +kernel
theorem dX6_putLast_22 : decode cX6_putLast 22 = .ok (.dup, 1) := by decide +kernel
theorem dX6_putLast_23 : decode cX6_putLast 23 = .ok (.getfield 31, 3) := by decide +kernel
theorem dX6_putLast_26 : decode cX6_putLast 26 = .ok (.iconst 1, 1) := by decide +kernel
theorem dX6_putLast_27 : decode cX6_putLast 27 = .ok (.iadd, 1) := by decide +kernel
theorem dX6_putLast_28 : decode cX6_putLast 28 = .ok (.putfield 31, 3) := by decide +kernel
theorem dX6_putLast_31 : decode cX6_putLast 31 = .ok (.return_, 1) := by decide +kernel
theorem dX6_people_0 : decode cX6_people 0 = .ok (.aload_n 0, 1) := by decide +kernel
theorem dX6_people_1 : decode cX6_people 1 = .ok (.getfield 24, 3) := by decide +kernel
theorem dX6_people_4 : decode cX6_people 4 = .ok (.ireturn, 1) := by decide +kernel
theorem dX6_news_0 : decode cX6_news 0 = .ok (.aload_n 0, 1) := by decide +kernel
theorem dX6_news_1 : decode cX6_news 1 = .ok (.getfield 28, 3) := by decide +kernel
theorem dX6_news_4 : decode cX6_news 4 = .ok (.ireturn, 1) := by decide +kernel
theorem dX6_standing_0 : decode cX6_standing 0 = .ok (.aload_n 0, 1) := by decide +kernel
theorem dX6_standing_1 : decode cX6_standing 1 = .ok (.getfield 31, 3) := by decide +kernel
theorem dX6_standing_4 : decode cX6_standing 4 = .ok (.ireturn, 1) := by decide +kernel
theorem dX6_hasPerson_0 : decode cX6_hasPerson 0 = .ok (.iload_n 1, 1) := by decide +kernel
theorem dX6_hasPerson_1 : decode cX6_hasPerson 1 = .ok (.ifCond .lt 15, 3) := by decide +kernel
theorem dX6_hasPerson_4 : decode cX6_hasPerson 4 = .ok (.iload_n 1, 1) := by decide +kernel
theorem dX6_hasPerson_5 : decode cX6_hasPerson 5 = .ok (.aload_n 0, 1) := by decide +kernel
theorem dX6_hasPerson_6 : decode cX6_hasPerson 6 = .ok (.getfield 24, 3) := by decide +kernel
theorem dX6_hasPerson_9 : decode cX6_hasPerson 9 = .ok (.if_icmp .ge 7, 3) := by decide +kernel
theorem dX6_hasPerson_12 : decode cX6_hasPerson 12 = .ok (.iconst 1, 1) := by decide +kernel
theorem dX6_hasPerson_13 : decode cX6_hasPerson 13 = .ok (.goto 4, 3) := by decide +kernel
theorem dX6_hasPerson_16 : decode cX6_hasPerson 16 = .ok (.iconst 0, 1) := by decide +kernel
theorem dX6_hasPerson_17 : decode cX6_hasPerson 17 = .ok (.ireturn, 1) := by decide +kernel
theorem dX6_hasNews_0 : decode cX6_hasNews 0 = .ok (.iload_n 1, 1) := by decide +kernel
theorem dX6_hasNews_1 : decode cX6_hasNews 1 = .ok (.ifCond .lt 15, 3) := by decide +kernel
theorem dX6_hasNews_4 : decode cX6_hasNews 4 = .ok (.iload_n 1, 1) := by decide +kernel
theorem dX6_hasNews_5 : decode cX6_hasNews 5 = .ok (.aload_n 0, 1) := by decide +kernel
theorem dX6_hasNews_6 : decode cX6_hasNews 6 = .ok (.getfield 28, 3) := by decide +kernel
theorem dX6_hasNews_9 : decode cX6_hasNews 9 = .ok (.if_icmp .ge 7, 3) := by decide +kernel
theorem dX6_hasNews_12 : decode cX6_hasNews 12 = .ok (.iconst 1, 1) := by decide +kernel
theorem dX6_hasNews_13 : decode cX6_hasNews 13 = .ok (.goto 4, 3) := by decide +kernel
theorem dX6_hasNews_16 : decode cX6_hasNews 16 = .ok (.iconst 0, 1) := by decide +kernel
theorem dX6_hasNews_17 : decode cX6_hasNews 17 = .ok (.ireturn, 1) := by decide +kernel
theorem dX6_hasPlace_0 : decode cX6_hasPlace 0 = .ok (.iload_n 1, 1) := by decide +kernel
theorem dX6_hasPlace_1 : decode cX6_hasPlace 1 = .ok (.ifCond .lt 15, 3) := by decide +kernel
theorem dX6_hasPlace_4 : decode cX6_hasPlace 4 = .ok (.iload_n 1, 1) := by decide +kernel
theorem dX6_hasPlace_5 : decode cX6_hasPlace 5 = .ok (.aload_n 0, 1) := by decide +kernel
theorem dX6_hasPlace_6 : decode cX6_hasPlace 6 = .ok (.getfield 31, 3) := by decide +kernel
theorem dX6_hasPlace_9 : decode cX6_hasPlace 9 = .ok (.if_icmp .ge 7, 3) := by decide +kernel
theorem dX6_hasPlace_12 : decode cX6_hasPlace 12 = .ok (.iconst 1, 1) := by decide +kernel
theorem dX6_hasPlace_13 : decode cX6_hasPlace 13 = .ok (.goto 4, 3) := by decide +kernel
theorem dX6_hasPlace_16 : decode cX6_hasPlace 16 = .ok (.iconst 0, 1) := by decide +kernel
theorem dX6_hasPlace_17 : decode cX6_hasPlace 17 = .ok (.ireturn, 1) := by decide +kernel
theorem dX6_delayOf_0 : decode cX6_delayOf 0 = .ok (.aload_n 0, 1) := by decide +kernel
theorem dX6_delayOf_1 : decode cX6_delayOf 1 = .ok (.getfield 9, 3) := by decide +kernel
theorem dX6_delayOf_4 : decode cX6_delayOf 4 = .ok (.iload_n 1, 1) := by decide +kernel
theorem dX6_delayOf_5 : decode cX6_delayOf 5 = .ok (.invokestatic 44, 3) := by decide +kernel
theorem dX6_delayOf_8 : decode cX6_delayOf 8 = .ok (.ireturn, 1) := by decide +kernel
theorem dX6_gapOf_0 : decode cX6_gapOf 0 = .ok (.aload_n 0, 1) := by decide +kernel
theorem dX6_gapOf_1 : decode cX6_gapOf 1 = .ok (.getfield 15, 3) := by decide +kernel
theorem dX6_gapOf_4 : decode cX6_gapOf 4 = .ok (.iload_n 1, 1) := by decide +kernel
theorem dX6_gapOf_5 : decode cX6_gapOf 5 = .ok (.invokestatic 44, 3) := by decide +kernel
theorem dX6_gapOf_8 : decode cX6_gapOf 8 = .ok (.ireturn, 1) := by decide +kernel
theorem dX6_tellerOf_0 : decode cX6_tellerOf 0 = .ok (.aload_n 0, 1) := by decide +kernel
theorem dX6_tellerOf_1 : decode cX6_tellerOf 1 = .ok (.getfield 18, 3) := by decide +kernel
theorem dX6_tellerOf_4 : decode cX6_tellerOf 4 = .ok (.iload_n 1, 1) := by decide +kernel
theorem dX6_tellerOf_5 : decode cX6_tellerOf 5 = .ok (.invokestatic 44, 3) := by decide +kernel
theorem dX6_tellerOf_8 : decode cX6_tellerOf 8 = .ok (.ireturn, 1) := by decide +kernel
theorem dX6_personAt_0 : decode cX6_personAt 0 = .ok (.aload_n 0, 1) := by decide +kernel
theorem dX6_personAt_1 : decode cX6_personAt 1 = .ok (.getfield 21, 3) := by decide +kernel
theorem dX6_personAt_4 : decode cX6_personAt 4 = .ok (.iload_n 1, 1) := by decide +kernel
theorem dX6_personAt_5 : decode cX6_personAt 5 = .ok (.invokestatic 44, 3) := by decide +kernel
theorem dX6_personAt_8 : decode cX6_personAt 8 = .ok (.ireturn, 1) := by decide +kernel
theorem dX6_placeOf_0 : decode cX6_placeOf 0 = .ok (.iconst 0, 1) := by decide +kernel
theorem dX6_placeOf_1 : decode cX6_placeOf 1 = .ok (.istore_n 2, 1) := by decide +kernel
theorem dX6_placeOf_2 : decode cX6_placeOf 2 = .ok (.iload_n 2, 1) := by decide +kernel
theorem dX6_placeOf_3 : decode cX6_placeOf 3 = .ok (.aload_n 0, 1) := by decide +kernel
theorem dX6_placeOf_4 : decode cX6_placeOf 4 = .ok (.getfield 31, 3) := by decide +kernel
theorem dX6_placeOf_7 : decode cX6_placeOf 7 = .ok (.if_icmp .ge 20, 3) := by decide +kernel
theorem dX6_placeOf_10 : decode cX6_placeOf 10 = .ok (.aload_n 0, 1) := by decide +kernel
theorem dX6_placeOf_11 : decode cX6_placeOf 11 = .ok (.iload_n 2, 1) := by decide +kernel
theorem dX6_placeOf_12 : decode cX6_placeOf 12 = .ok (.invokevirtual 48, 3) := by decide +kernel
theorem dX6_placeOf_15 : decode cX6_placeOf 15 = .ok (.iload_n 1, 1) := by decide +kernel
theorem dX6_placeOf_16 : decode cX6_placeOf 16 = .ok (.if_icmp .ne 5, 3) := by decide +kernel
theorem dX6_placeOf_19 : decode cX6_placeOf 19 = .ok (.iload_n 2, 1) := by decide +kernel
theorem dX6_placeOf_20 : decode cX6_placeOf 20 = .ok (.ireturn, 1) := by decide +kernel
theorem dX6_placeOf_21 : decode cX6_placeOf 21 = .ok (.iinc 2 1, 3) := by decide +kernel
theorem dX6_placeOf_24 : decode cX6_placeOf 24 = .ok (.goto (-22), 3) := by decide +kernel
theorem dX6_placeOf_27 : decode cX6_placeOf 27 = .ok (.bipush (-9), 2) := by decide +kernel
theorem dX6_placeOf_29 : decode cX6_placeOf 29 = .ok (.ireturn, 1) := by decide +kernel
theorem dX6_countToldBy_0 : decode cX6_countToldBy 0 = .ok (.iconst 0, 1) := by decide +kernel
theorem dX6_countToldBy_1 : decode cX6_countToldBy 1 = .ok (.istore_n 2, 1) := by decide +kernel
theorem dX6_countToldBy_2 : decode cX6_countToldBy 2 = .ok (.iconst 0, 1) := by decide +kernel
theorem dX6_countToldBy_3 : decode cX6_countToldBy 3 = .ok (.istore_n 3, 1) := by decide +kernel
theorem dX6_countToldBy_4 : decode cX6_countToldBy 4 = .ok (.iload_n 3, 1) := by decide +kernel
theorem dX6_countToldBy_5 : decode cX6_countToldBy 5 = .ok (.aload_n 0, 1) := by decide +kernel
theorem dX6_countToldBy_6 : decode cX6_countToldBy 6 = .ok (.getfield 31, 3) := by decide +kernel
theorem dX6_countToldBy_9 : decode cX6_countToldBy 9 = .ok (.if_icmp .ge 25, 3) := by decide +kernel
theorem dX6_countToldBy_12 : decode cX6_countToldBy 12 = .ok (.aload_n 0, 1) := by decide +kernel
theorem dX6_countToldBy_13 : decode cX6_countToldBy 13 = .ok (.aload_n 0, 1) := by decide +kernel
theorem dX6_countToldBy_14 : decode cX6_countToldBy 14 = .ok (.iload_n 3, 1) := by decide +kernel
theorem dX6_countToldBy_15 : decode cX6_countToldBy 15 = .ok (.invokevirtual 48, 3) := by decide +kernel
theorem dX6_countToldBy_18 : decode cX6_countToldBy 18 = .ok (.invokevirtual 52, 3) := by decide +kernel
theorem dX6_countToldBy_21 : decode cX6_countToldBy 21 = .ok (.iload_n 1, 1) := by decide +kernel
theorem dX6_countToldBy_22 : decode cX6_countToldBy 22 = .ok (.if_icmp .ne 6, 3) := by decide +kernel
theorem dX6_countToldBy_25 : decode cX6_countToldBy 25 = .ok (.iinc 2 1, 3) := by decide +kernel
theorem dX6_countToldBy_28 : decode cX6_countToldBy 28 = .ok (.iinc 3 1, 3) := by decide +kernel
theorem dX6_countToldBy_31 : decode cX6_countToldBy 31 = .ok (.goto (-27), 3) := by decide +kernel
theorem dX6_countToldBy_34 : decode cX6_countToldBy 34 = .ok (.iload_n 2, 1) := by decide +kernel
theorem dX6_countToldBy_35 : decode cX6_countToldBy 35 = .ok (.ireturn, 1) := by decide +kernel
theorem dX6_branchOf_0 : decode cX6_branchOf 0 = .ok (.iconst 1, 1) := by decide +kernel
theorem dX6_branchOf_1 : decode cX6_branchOf 1 = .ok (.iload_n 1, 1) := by decide +kernel
theorem dX6_branchOf_2 : decode cX6_branchOf 2 = .ok (.ishl, 1) := by decide +kernel
theorem dX6_branchOf_3 : decode cX6_branchOf 3 = .ok (.istore_n 2, 1) := by decide +kernel
theorem dX6_branchOf_4 : decode cX6_branchOf 4 = .ok (.iconst 0, 1) := by decide +kernel
theorem dX6_branchOf_5 : decode cX6_branchOf 5 = .ok (.istore_n 3, 1) := by decide +kernel
theorem dX6_branchOf_6 : decode cX6_branchOf 6 = .ok (.iload_n 3, 1) := by decide +kernel
theorem dX6_branchOf_7 : decode cX6_branchOf 7 = .ok (.aload_n 0, 1) := by decide +kernel
theorem dX6_branchOf_8 : decode cX6_branchOf 8 = .ok (.getfield 31, 3) := by decide +kernel
theorem dX6_branchOf_11 : decode cX6_branchOf 11 = .ok (.if_icmp .ge 36, 3) := by decide +kernel
theorem dX6_branchOf_14 : decode cX6_branchOf 14 = .ok (.aload_n 0, 1) := by decide +kernel
theorem dX6_branchOf_15 : decode cX6_branchOf 15 = .ok (.iload_n 3, 1) := by decide +kernel
theorem dX6_branchOf_16 : decode cX6_branchOf 16 = .ok (.invokevirtual 48, 3) := by decide +kernel
theorem dX6_branchOf_19 : decode cX6_branchOf 19 = .ok (.istore 4, 2) := by decide +kernel
theorem dX6_branchOf_21 : decode cX6_branchOf 21 = .ok (.iload_n 2, 1) := by decide +kernel
theorem dX6_branchOf_22 : decode cX6_branchOf 22 = .ok (.aload_n 0, 1) := by decide +kernel
theorem dX6_branchOf_23 : decode cX6_branchOf 23 = .ok (.iload 4, 2) := by decide +kernel
theorem dX6_branchOf_25 : decode cX6_branchOf 25 = .ok (.invokevirtual 52, 3) := by decide +kernel
theorem dX6_branchOf_28 : decode cX6_branchOf 28 = .ok (.ishr, 1) := by decide +kernel
theorem dX6_branchOf_29 : decode cX6_branchOf 29 = .ok (.iconst 1, 1) := by decide +kernel
theorem dX6_branchOf_30 : decode cX6_branchOf 30 = .ok (.iand, 1) := by decide +kernel
theorem dX6_branchOf_31 : decode cX6_branchOf 31 = .ok (.ifCond .eq 10, 3) := by decide +kernel
theorem dX6_branchOf_34 : decode cX6_branchOf 34 = .ok (.iload_n 2, 1) := by decide +kernel
theorem dX6_branchOf_35 : decode cX6_branchOf 35 = .ok (.iconst 1, 1) := by decide +kernel
theorem dX6_branchOf_36 : decode cX6_branchOf 36 = .ok (.iload 4, 2) := by decide +kernel
theorem dX6_branchOf_38 : decode cX6_branchOf 38 = .ok (.ishl, 1) := by decide +kernel
theorem dX6_branchOf_39 : decode cX6_branchOf 39 = .ok (.ior, 1) := by decide +kernel
theorem dX6_branchOf_40 : decode cX6_branchOf 40 = .ok (.istore_n 2, 1) := by decide +kernel
theorem dX6_branchOf_41 : decode cX6_branchOf 41 = .ok (.iinc 3 1, 3) := by decide +kernel
theorem dX6_branchOf_44 : decode cX6_branchOf 44 = .ok (.goto (-38), 3) := by decide +kernel
theorem dX6_branchOf_47 : decode cX6_branchOf 47 = .ok (.iload_n 2, 1) := by decide +kernel
theorem dX6_branchOf_48 : decode cX6_branchOf 48 = .ok (.ireturn, 1) := by decide +kernel
theorem dX6_setDelay_0 : decode cX6_setDelay 0 = .ok (.aload_n 0, 1) := by decide +kernel
theorem dX6_setDelay_1 : decode cX6_setDelay 1 = .ok (.getfield 9, 3) := by decide +kernel
theorem dX6_setDelay_4 : decode cX6_setDelay 4 = .ok (.iload_n 1, 1) := by decide +kernel
theorem dX6_setDelay_5 : decode cX6_setDelay 5 = .ok (.iload_n 2, 1) := by decide +kernel
theorem dX6_setDelay_6 : decode cX6_setDelay 6 = .ok (.invokestatic 40, 3) := by decide +kernel
theorem dX6_setDelay_9 : decode cX6_setDelay 9 = .ok (.return_, 1) := by decide +kernel
theorem dX6_setGap_0 : decode cX6_setGap 0 = .ok (.aload_n 0, 1) := by decide +kernel
theorem dX6_setGap_1 : decode cX6_setGap 1 = .ok (.getfield 15, 3) := by decide +kernel
theorem dX6_setGap_4 : decode cX6_setGap 4 = .ok (.iload_n 1, 1) := by decide +kernel
theorem dX6_setGap_5 : decode cX6_setGap 5 = .ok (.iload_n 2, 1) := by decide +kernel
theorem dX6_setGap_6 : decode cX6_setGap 6 = .ok (.invokestatic 40, 3) := by decide +kernel
theorem dX6_setGap_9 : decode cX6_setGap 9 = .ok (.return_, 1) := by decide +kernel
theorem dX6_tellAnew_0 : decode cX6_tellAnew 0 = .ok (.iload_n 2, 1) := by decide +kernel
theorem dX6_tellAnew_1 : decode cX6_tellAnew 1 = .ok (.ifCond .ne 19, 3) := by decide +kernel
theorem dX6_tellAnew_4 : decode cX6_tellAnew 4 = .ok (.aload_n 0, 1) := by decide +kernel
theorem dX6_tellAnew_5 : decode cX6_tellAnew 5 = .ok (.iload_n 1, 1) := by decide +kernel
theorem dX6_tellAnew_6 : decode cX6_tellAnew 6 = .ok (.invokevirtual 55, 3) := by decide +kernel
theorem dX6_tellAnew_9 : decode cX6_tellAnew 9 = .ok (.istore 4, 2) := by decide +kernel
theorem dX6_tellAnew_11 : decode cX6_tellAnew 11 = .ok (.aload_n 0, 1) := by decide +kernel
theorem dX6_tellAnew_12 : decode cX6_tellAnew 12 = .ok (.iload_n 1, 1) := by decide +kernel
theorem dX6_tellAnew_13 : decode cX6_tellAnew 13 = .ok (.iload_n 3, 1) := by decide +kernel
theorem dX6_tellAnew_14 : decode cX6_tellAnew 14 = .ok (.invokevirtual 58, 3) := by decide +kernel
theorem dX6_tellAnew_17 : decode cX6_tellAnew 17 = .ok (.goto 35, 3) := by decide +kernel
theorem dX6_tellAnew_20 : decode cX6_tellAnew 20 = .ok (.iload_n 2, 1) := by decide +kernel
theorem dX6_tellAnew_21 : decode cX6_tellAnew 21 = .ok (.iconst 1, 1) := by decide +kernel
theorem dX6_tellAnew_22 : decode cX6_tellAnew 22 = .ok (.if_icmp .ne 19, 3) := by decide +kernel
theorem dX6_tellAnew_25 : decode cX6_tellAnew 25 = .ok (.aload_n 0, 1) := by decide +kernel
theorem dX6_tellAnew_26 : decode cX6_tellAnew 26 = .ok (.iload_n 1, 1) := by decide +kernel
theorem dX6_tellAnew_27 : decode cX6_tellAnew 27 = .ok (.invokevirtual 62, 3) := by decide +kernel
theorem dX6_tellAnew_30 : decode cX6_tellAnew 30 = .ok (.istore 4, 2) := by decide +kernel
theorem dX6_tellAnew_32 : decode cX6_tellAnew 32 = .ok (.aload_n 0, 1) := by decide +kernel
theorem dX6_tellAnew_33 : decode cX6_tellAnew 33 = .ok (.iload_n 1, 1) := by decide +kernel
theorem dX6_tellAnew_34 : decode cX6_tellAnew 34 = .ok (.iload_n 3, 1) := by decide +kernel
theorem dX6_tellAnew_35 : decode cX6_tellAnew 35 = .ok (.invokevirtual 65, 3) := by decide +kernel
theorem dX6_tellAnew_38 : decode cX6_tellAnew 38 = .ok (.goto 14, 3) := by decide +kernel
theorem dX6_tellAnew_41 : decode cX6_tellAnew 41 = .ok (.aload_n 0, 1) := by decide +kernel
theorem dX6_tellAnew_42 : decode cX6_tellAnew 42 = .ok (.getfield 28, 3) := by decide +kernel
theorem dX6_tellAnew_45 : decode cX6_tellAnew 45 = .ok (.istore 4, 2) := by decide +kernel
theorem dX6_tellAnew_47 : decode cX6_tellAnew 47 = .ok (.aload_n 0, 1) := by decide +kernel
theorem dX6_tellAnew_48 : decode cX6_tellAnew 48 = .ok (.iload_n 3, 1) := by decide +kernel
theorem dX6_tellAnew_49 : decode cX6_tellAnew 49 = .ok (.putfield 28, 3) := by decide +kernel
theorem dX6_tellAnew_52 : decode cX6_tellAnew 52 = .ok (.iload 4, 2) := by decide +kernel
theorem dX6_tellAnew_54 : decode cX6_tellAnew 54 = .ok (.ireturn, 1) := by decide +kernel
theorem dX6_giveTeller_0 : decode cX6_giveTeller 0 = .ok (.aload_n 0, 1) := by decide +kernel
theorem dX6_giveTeller_1 : decode cX6_giveTeller 1 = .ok (.iload_n 1, 1) := by decide +kernel
theorem dX6_giveTeller_2 : decode cX6_giveTeller 2 = .ok (.invokevirtual 68, 3) := by decide +kernel
theorem dX6_giveTeller_5 : decode cX6_giveTeller 5 = .ok (.istore_n 3, 1) := by decide +kernel
theorem dX6_giveTeller_6 : decode cX6_giveTeller 6 = .ok (.aload_n 0, 1) := by decide +kernel
theorem dX6_giveTeller_7 : decode cX6_giveTeller 7 = .ok (.getfield 18, 3) := by decide +kernel
theorem dX6_giveTeller_10 : decode cX6_giveTeller 10 = .ok (.iload_n 1, 1) := by decide +kernel
theorem dX6_giveTeller_11 : decode cX6_giveTeller 11 = .ok (.iload_n 2, 1) := by decide +kernel
theorem dX6_giveTeller_12 : decode cX6_giveTeller 12 = .ok (.invokestatic 40, 3) := by decide +kernel
theorem dX6_giveTeller_15 : decode cX6_giveTeller 15 = .ok (.iconst 0, 1) := by decide +kernel
theorem dX6_giveTeller_16 : decode cX6_giveTeller 16 = .ok (.istore 4, 2) := by decide +kernel
theorem dX6_giveTeller_18 : decode cX6_giveTeller 18 = .ok (.iconst 0, 1) := by decide +kernel
theorem dX6_giveTeller_19 : decode cX6_giveTeller 19 = .ok (.istore 5, 2) := by decide +kernel
theorem dX6_giveTeller_21 : decode cX6_giveTeller 21 = .ok (.iload 5, 2) := by decide +kernel
theorem dX6_giveTeller_23 : decode cX6_giveTeller 23 = .ok (.aload_n 0, 1) := by decide +kernel
theorem dX6_giveTeller_24 : decode cX6_giveTeller 24 = .ok (.getfield 31, 3) := by decide +kernel
theorem dX6_giveTeller_27 : decode cX6_giveTeller 27 = .ok (.if_icmp .ge 34, 3) := by decide +kernel
theorem dX6_giveTeller_30 : decode cX6_giveTeller 30 = .ok (.iload_n 3, 1) := by decide +kernel
theorem dX6_giveTeller_31 : decode cX6_giveTeller 31 = .ok (.aload_n 0, 1) := by decide +kernel
theorem dX6_giveTeller_32 : decode cX6_giveTeller 32 = .ok (.iload 4, 2) := by decide +kernel
theorem dX6_giveTeller_34 : decode cX6_giveTeller 34 = .ok (.invokevirtual 48, 3) := by decide +kernel
theorem dX6_giveTeller_37 : decode cX6_giveTeller 37 = .ok (.ishr, 1) := by decide +kernel
theorem dX6_giveTeller_38 : decode cX6_giveTeller 38 = .ok (.iconst 1, 1) := by decide +kernel
theorem dX6_giveTeller_39 : decode cX6_giveTeller 39 = .ok (.iand, 1) := by decide +kernel
theorem dX6_giveTeller_40 : decode cX6_giveTeller 40 = .ok (.ifCond .eq 12, 3) := by decide +kernel
theorem dX6_giveTeller_43 : decode cX6_giveTeller 43 = .ok (.aload_n 0, 1) := by decide +kernel
theorem dX6_giveTeller_44 : decode cX6_giveTeller 44 = .ok (.iload 4, 2) := by decide +kernel
theorem dX6_giveTeller_46 : decode cX6_giveTeller 46 = .ok (.invokevirtual 71, 3) := by decide +kernel
theorem dX6_giveTeller_49 : decode cX6_giveTeller 49 = .ok (.goto 6, 3) := by decide +kernel
theorem dX6_giveTeller_52 : decode cX6_giveTeller 52 = .ok (.iinc 4 1, 3) := by decide +kernel
theorem dX6_giveTeller_55 : decode cX6_giveTeller 55 = .ok (.iinc 5 1, 3) := by decide +kernel
theorem dX6_giveTeller_58 : decode cX6_giveTeller 58 = .ok (.goto (-37), 3) := by decide +kernel
theorem dX6_giveTeller_61 : decode cX6_giveTeller 61 = .ok (.return_, 1) := by decide +kernel
theorem dX6_sendBehindAll_0 : decode cX6_sendBehindAll 0 = .ok (.aload_n 0, 1) := by decide +kernel
theorem dX6_sendBehindAll_1 : decode cX6_sendBehindAll 1 = .ok (.iload_n 1, 1) := by decide +kernel
theorem dX6_sendBehindAll_2 : decode cX6_sendBehindAll 2 = .ok (.invokevirtual 48, 3) := by decide +kernel
theorem dX6_sendBehindAll_5 : decode cX6_sendBehindAll 5 = .ok (.istore_n 2, 1) := by decide +kernel
theorem dX6_sendBehindAll_6 : decode cX6_sendBehindAll 6 = .ok (.iload_n 1, 1) := by decide +kernel
theorem dX6_sendBehindAll_7 : decode cX6_sendBehindAll 7 = .ok (.istore_n 3, 1) := by decide +kernel
theorem dX6_sendBehindAll_8 : decode cX6_sendBehindAll 8 = .ok (.iload_n 3, 1) := by decide +kernel
theorem dX6_sendBehindAll_9 : decode cX6_sendBehindAll 9 = .ok (.aload_n 0, 1) := by decide +kernel
theorem dX6_sendBehindAll_10 : decode cX6_sendBehindAll 10 = .ok (.getfield 31, 3) := by decide +kernel
theorem dX6_sendBehindAll_13 : decode cX6_sendBehindAll 13 = .ok (.iconst 1, 1) := by decide +kernel
theorem dX6_sendBehindAll_14 : decode cX6_sendBehindAll 14 = .ok (.isub, 1) := by decide +kernel
theorem dX6_sendBehindAll_15 : decode cX6_sendBehindAll 15 = .ok (.if_icmp .ge 24, 3) := by decide +kernel
theorem dX6_sendBehindAll_18 : decode cX6_sendBehindAll 18 = .ok (.aload_n 0, 1) := by decide +kernel
theorem dX6_sendBehindAll_19 : decode cX6_sendBehindAll 19 = .ok (.getfield 21, 3) := by decide +kernel
theorem dX6_sendBehindAll_22 : decode cX6_sendBehindAll 22 = .ok (.iload_n 3, 1) := by decide +kernel
theorem dX6_sendBehindAll_23 : decode cX6_sendBehindAll 23 = .ok (.aload_n 0, 1) := by decide +kernel
theorem dX6_sendBehindAll_24 : decode cX6_sendBehindAll 24 = .ok (.iload_n 3, 1) := by decide +kernel
theorem dX6_sendBehindAll_25 : decode cX6_sendBehindAll 25 = .ok (.iconst 1, 1) := by decide +kernel
theorem dX6_sendBehindAll_26 : decode cX6_sendBehindAll 26 = .ok (.iadd, 1) := by decide +kernel
theorem dX6_sendBehindAll_27 : decode cX6_sendBehindAll 27 = .ok (.invokevirtual 48, 3) := by decide +kernel
theorem dX6_sendBehindAll_30 : decode cX6_sendBehindAll 30 = .ok (.invokestatic 40, 3) := by decide +kernel
theorem dX6_sendBehindAll_33 : decode cX6_sendBehindAll 33 = .ok (.iinc 3 1, 3) := by decide +kernel
theorem dX6_sendBehindAll_36 : decode cX6_sendBehindAll 36 = .ok (.goto (-28), 3) := by decide +kernel
theorem dX6_sendBehindAll_39 : decode cX6_sendBehindAll 39 = .ok (.aload_n 0, 1) := by decide +kernel
theorem dX6_sendBehindAll_40 : decode cX6_sendBehindAll 40 = .ok (.getfield 21, 3) := by decide +kernel
theorem dX6_sendBehindAll_43 : decode cX6_sendBehindAll 43 = .ok (.aload_n 0, 1) := by decide +kernel
theorem dX6_sendBehindAll_44 : decode cX6_sendBehindAll 44 = .ok (.getfield 31, 3) := by decide +kernel
theorem dX6_sendBehindAll_47 : decode cX6_sendBehindAll 47 = .ok (.iconst 1, 1) := by decide +kernel
theorem dX6_sendBehindAll_48 : decode cX6_sendBehindAll 48 = .ok (.isub, 1) := by decide +kernel
theorem dX6_sendBehindAll_49 : decode cX6_sendBehindAll 49 = .ok (.iload_n 2, 1) := by decide +kernel
theorem dX6_sendBehindAll_50 : decode cX6_sendBehindAll 50 = .ok (.invokestatic 40, 3) := by decide +kernel
theorem dX6_sendBehindAll_53 : decode cX6_sendBehindAll 53 = .ok (.return_, 1) := by decide +kernel
theorem dX6_exchange_0 : decode cX6_exchange 0 = .ok (.aload_n 0, 1) := by decide +kernel
theorem dX6_exchange_1 : decode cX6_exchange 1 = .ok (.iload_n 1, 1) := by decide +kernel
theorem dX6_exchange_2 : decode cX6_exchange 2 = .ok (.invokevirtual 48, 3) := by decide +kernel
theorem dX6_exchange_5 : decode cX6_exchange 5 = .ok (.istore_n 2, 1) := by decide +kernel
theorem dX6_exchange_6 : decode cX6_exchange 6 = .ok (.aload_n 0, 1) := by decide +kernel
theorem dX6_exchange_7 : decode cX6_exchange 7 = .ok (.getfield 21, 3) := by decide +kernel
theorem dX6_exchange_10 : decode cX6_exchange 10 = .ok (.iload_n 1, 1) := by decide +kernel
theorem dX6_exchange_11 : decode cX6_exchange 11 = .ok (.aload_n 0, 1) := by decide +kernel
theorem dX6_exchange_12 : decode cX6_exchange 12 = .ok (.iload_n 1, 1) := by decide +kernel
theorem dX6_exchange_13 : decode cX6_exchange 13 = .ok (.iconst 1, 1) := by decide +kernel
theorem dX6_exchange_14 : decode cX6_exchange 14 = .ok (.iadd, 1) := by decide +kernel
theorem dX6_exchange_15 : decode cX6_exchange 15 = .ok (.invokevirtual 48, 3) := by decide +kernel
theorem dX6_exchange_18 : decode cX6_exchange 18 = .ok (.invokestatic 40, 3) := by decide +kernel
theorem dX6_exchange_21 : decode cX6_exchange 21 = .ok (.aload_n 0, 1) := by decide +kernel
theorem dX6_exchange_22 : decode cX6_exchange 22 = .ok (.getfield 21, 3) := by decide +kernel
theorem dX6_exchange_25 : decode cX6_exchange 25 = .ok (.iload_n 1, 1) := by decide +kernel
theorem dX6_exchange_26 : decode cX6_exchange 26 = .ok (.iconst 1, 1) := by decide +kernel
theorem dX6_exchange_27 : decode cX6_exchange 27 = .ok (.iadd, 1) := by decide +kernel
theorem dX6_exchange_28 : decode cX6_exchange 28 = .ok (.iload_n 2, 1) := by decide +kernel
theorem dX6_exchange_29 : decode cX6_exchange 29 = .ok (.invokestatic 40, 3) := by decide +kernel
theorem dX6_exchange_32 : decode cX6_exchange 32 = .ok (.return_, 1) := by decide +kernel
theorem dX7_init_0 : decode cX7_init 0 = .ok (.aload_n 0, 1) := by decide +kernel
theorem dX7_init_1 : decode cX7_init 1 = .ok (.invokespecial 3, 3) := by decide +kernel
theorem dX7_init_4 : decode cX7_init 4 = .ok (.aload_n 0, 1) := by decide +kernel
theorem dX7_init_5 : decode cX7_init 5 = .ok (.bipush 60, 2) := by decide +kernel
theorem dX7_init_7 : decode cX7_init 7 = .ok (.newarray .int, 2) := by decide +kernel
theorem dX7_init_9 : decode cX7_init 9 = .ok (.putfield 9, 3) := by decide +kernel
theorem dX7_init_12 : decode cX7_init 12 = .ok (.return_, 1) := by decide +kernel
theorem dX7_length_0 : decode cX7_length 0 = .ok (.aload_n 0, 1) := by decide +kernel
theorem dX7_length_1 : decode cX7_length 1 = .ok (.getfield 15, 3) := by decide +kernel
theorem dX7_length_4 : decode cX7_length 4 = .ok (.ireturn, 1) := by decide +kernel
theorem dX7_add_0 : decode cX7_add 0 = .ok (.aload_n 0, 1) := by decide +kernel
theorem dX7_add_1 : decode cX7_add 1 = .ok (.getfield 15, 3) := by decide +kernel
theorem dX7_add_4 : decode cX7_add 4 = .ok (.bipush 60, 2) := by decide +kernel
theorem dX7_add_6 : decode cX7_add 6 = .ok (.if_icmp .lt 5, 3) := by decide +kernel
theorem dX7_add_9 : decode cX7_add 9 = .ok (.iconst 0, 1) := by decide +kernel
theorem dX7_add_10 : decode cX7_add 10 = .ok (.ireturn, 1) := by decide +kernel
theorem dX7_add_11 : decode cX7_add 11 = .ok (.aload_n 0, 1) := by decide +kernel
theorem dX7_add_12 : decode cX7_add 12 = .ok (.getfield 9, 3) := by decide +kernel
theorem dX7_add_15 : decode cX7_add 15 = .ok (.aload_n 0, 1) := by decide +kernel
theorem dX7_add_16 : decode cX7_add 16 = .ok (.getfield 15, 3) := by decide +kernel
theorem dX7_add_19 : decode cX7_add 19 = .ok (.iload_n 1, 1) := by decide +kernel
theorem dX7_add_20 : decode cX7_add 20 = .ok (.invokestatic 19, 3) := by decide +kernel
theorem dX7_add_23 : decode cX7_add 23 = .ok (.aload_n 0, 1) := by decide +kernel
theorem dX7_add_24 : decode cX7_add 24 = .ok (.dup, 1) := by decide +kernel
theorem dX7_add_25 : decode cX7_add 25 = .ok (.getfield 15, 3) := by decide +kernel
theorem dX7_add_28 : decode cX7_add 28 = .ok (.iconst 1, 1) := by decide +kernel
theorem dX7_add_29 : decode cX7_add 29 = .ok (.iadd, 1) := by decide +kernel
theorem dX7_add_30 : decode cX7_add 30 = .ok (.putfield 15, 3) := by decide +kernel
theorem dX7_add_33 : decode cX7_add 33 = .ok (.iconst 1, 1) := by decide +kernel
theorem dX7_add_34 : decode cX7_add 34 = .ok (.ireturn, 1) := by decide +kernel
theorem dX7_clear_0 : decode cX7_clear 0 = .ok (.aload_n 0, 1) := by decide +kernel
theorem dX7_clear_1 : decode cX7_clear 1 = .ok (.iconst 0, 1) := by decide +kernel
theorem dX7_clear_2 : decode cX7_clear 2 = .ok (.putfield 15, 3) := by decide +kernel
theorem dX7_clear_5 : decode cX7_clear 5 = .ok (.return_, 1) := by decide +kernel
theorem dX7_firstFault_0 : decode cX7_firstFault 0 = .ok (.iconst 0, 1) := by decide +kernel
theorem dX7_firstFault_1 : decode cX7_firstFault 1 = .ok (.istore_n 1, 1) := by decide +kernel
theorem dX7_firstFault_2 : decode cX7_firstFault 2 = .ok (.iload_n 1, 1) := by decide +kernel
theorem dX7_firstFault_3 : decode cX7_firstFault 3 = .ok (.aload_n 0, 1) := by decide +kernel
theorem dX7_firstFault_4 : decode cX7_firstFault 4 = .ok (.getfield 15, 3) := by decide +kernel
theorem dX7_firstFault_7 : decode cX7_firstFault 7 = .ok (.if_icmp .ge 19, 3) := by decide +kernel
theorem dX7_firstFault_10 : decode cX7_firstFault 10 = .ok (.aload_n 0, 1) := by decide +kernel
theorem dX7_firstFault_11 : decode cX7_firstFault 11 = .ok (.iload_n 1, 1) := by decide +kernel
theorem dX7_firstFault_12 : decode cX7_firstFault 12 = .ok (.invokevirtual 23, 3) := by decide +kernel
theorem dX7_firstFault_15 : decode cX7_firstFault 15 = .ok (.ifCond .ne 5, 3) := by decide +kernel
theorem dX7_firstFault_18 : decode cX7_firstFault 18 = .ok (.iload_n 1, 1) := by decide +kernel
theorem dX7_firstFault_19 : decode cX7_firstFault 19 = .ok (.ireturn, 1) := by decide +kernel
theorem dX7_firstFault_20 : decode cX7_firstFault 20 = .ok (.iinc 1 1, 3) := by decide +kernel
theorem dX7_firstFault_23 : decode cX7_firstFault 23 = .ok (.goto (-21), 3) := by decide +kernel
theorem dX7_firstFault_26 : decode cX7_firstFault 26 = .ok (.aload_n 0, 1) := by decide +kernel
theorem dX7_firstFault_27 : decode cX7_firstFault 27 = .ok (.getfield 15, 3) := by decide +kernel
theorem dX7_firstFault_30 : decode cX7_firstFault 30 = .ok (.iconst 2, 1) := by decide +kernel
theorem dX7_firstFault_31 : decode cX7_firstFault 31 = .ok (.if_icmp .le 19, 3) := by decide +kernel
theorem dX7_firstFault_34 : decode cX7_firstFault 34 = .ok (.aload_n 0, 1) := by decide +kernel
theorem dX7_firstFault_35 : decode cX7_firstFault 35 = .ok (.getfield 15, 3) := by decide +kernel
theorem dX7_firstFault_38 : decode cX7_firstFault 38 = .ok (.aload_n 0, 1) := by decide +kernel
theorem dX7_firstFault_39 : decode cX7_firstFault 39 = .ok (.invokevirtual 27, 3) := by decide +kernel
theorem dX7_firstFault_42 : decode cX7_firstFault 42 = .ok (.if_icmp .ne 8, 3) := by decide +kernel
theorem dX7_firstFault_45 : decode cX7_firstFault 45 = .ok (.bipush (-9), 2) := by decide +kernel
theorem dX7_firstFault_47 : decode cX7_firstFault 47 = .ok (.goto 7, 3) := by decide +kernel
theorem dX7_firstFault_50 : decode cX7_firstFault 50 = .ok (.aload_n 0, 1) := by decide +kernel
theorem dX7_firstFault_51 : decode cX7_firstFault 51 = .ok (.getfield 15, 3) := by decide +kernel
theorem dX7_firstFault_54 : decode cX7_firstFault 54 = .ok (.ireturn, 1) := by decide +kernel
theorem dX7_tellInto_0 : decode cX7_tellInto 0 = .ok (.aload_n 0, 1) := by decide +kernel
theorem dX7_tellInto_1 : decode cX7_tellInto 1 = .ok (.iconst 2, 1) := by decide +kernel
theorem dX7_tellInto_2 : decode cX7_tellInto 2 = .ok (.invokevirtual 31, 3) := by decide +kernel
theorem dX7_tellInto_5 : decode cX7_tellInto 5 = .ok (.istore_n 2, 1) := by decide +kernel
theorem dX7_tellInto_6 : decode cX7_tellInto 6 = .ok (.aload_n 1, 1) := by decide +kernel
theorem dX7_tellInto_7 : decode cX7_tellInto 7 = .ok (.iload_n 2, 1) := by decide +kernel
theorem dX7_tellInto_8 : decode cX7_tellInto 8 = .ok (.aload_n 0, 1) := by decide +kernel
theorem dX7_tellInto_9 : decode cX7_tellInto 9 = .ok (.iconst 1, 1) := by decide +kernel
theorem dX7_tellInto_10 : decode cX7_tellInto 10 = .ok (.invokevirtual 31, 3) := by decide +kernel
theorem dX7_tellInto_13 : decode cX7_tellInto 13 = .ok (.invokevirtual 35, 3) := by decide +kernel
theorem dX7_tellInto_16 : decode cX7_tellInto 16 = .ok (.iconst 0, 1) := by decide +kernel
theorem dX7_tellInto_17 : decode cX7_tellInto 17 = .ok (.istore_n 3, 1) := by decide +kernel
theorem dX7_tellInto_18 : decode cX7_tellInto 18 = .ok (.iload_n 3, 1) := by decide +kernel
theorem dX7_tellInto_19 : decode cX7_tellInto 19 = .ok (.iload_n 2, 1) := by decide +kernel
theorem dX7_tellInto_20 : decode cX7_tellInto 20 = .ok (.if_icmp .ge 39, 3) := by decide +kernel
theorem dX7_tellInto_23 : decode cX7_tellInto 23 = .ok (.aload_n 1, 1) := by decide +kernel
theorem dX7_tellInto_24 : decode cX7_tellInto 24 = .ok (.iload_n 3, 1) := by decide +kernel
theorem dX7_tellInto_25 : decode cX7_tellInto 25 = .ok (.aload_n 0, 1) := by decide +kernel
theorem dX7_tellInto_26 : decode cX7_tellInto 26 = .ok (.iconst 3, 1) := by decide +kernel
theorem dX7_tellInto_27 : decode cX7_tellInto 27 = .ok (.iconst 2, 1) := by decide +kernel
theorem dX7_tellInto_28 : decode cX7_tellInto 28 = .ok (.iload_n 3, 1) := by decide +kernel
theorem dX7_tellInto_29 : decode cX7_tellInto 29 = .ok (.imul, 1) := by decide +kernel
theorem dX7_tellInto_30 : decode cX7_tellInto 30 = .ok (.iadd, 1) := by decide +kernel
theorem dX7_tellInto_31 : decode cX7_tellInto 31 = .ok (.invokevirtual 31, 3) := by decide +kernel
theorem dX7_tellInto_34 : decode cX7_tellInto 34 = .ok (.invokevirtual 41, 3) := by decide +kernel
theorem dX7_tellInto_37 : decode cX7_tellInto 37 = .ok (.aload_n 1, 1) := by decide +kernel
theorem dX7_tellInto_38 : decode cX7_tellInto 38 = .ok (.iload_n 3, 1) := by decide +kernel
theorem dX7_tellInto_39 : decode cX7_tellInto 39 = .ok (.aload_n 0, 1) := by decide +kernel
theorem dX7_tellInto_40 : decode cX7_tellInto 40 = .ok (.iconst 3, 1) := by decide +kernel
theorem dX7_tellInto_41 : decode cX7_tellInto 41 = .ok (.iconst 2, 1) := by decide +kernel
theorem dX7_tellInto_42 : decode cX7_tellInto 42 = .ok (.iload_n 3, 1) := by decide +kernel
theorem dX7_tellInto_43 : decode cX7_tellInto 43 = .ok (.imul, 1) := by decide +kernel
theorem dX7_tellInto_44 : decode cX7_tellInto 44 = .ok (.iadd, 1) := by decide +kernel
theorem dX7_tellInto_45 : decode cX7_tellInto 45 = .ok (.iconst 1, 1) := by decide +kernel
theorem dX7_tellInto_46 : decode cX7_tellInto 46 = .ok (.iadd, 1) := by decide +kernel
theorem dX7_tellInto_47 : decode cX7_tellInto 47 = .ok (.invokevirtual 31, 3) := by decide +kernel
theorem dX7_tellInto_50 : decode cX7_tellInto 50 = .ok (.invokevirtual 44, 3) := by decide +kernel
theorem dX7_tellInto_53 : decode cX7_tellInto 53 = .ok (.iinc 3 1, 3) := by decide +kernel
theorem dX7_tellInto_56 : decode cX7_tellInto 56 = .ok (.goto (-38), 3) := by decide +kernel
theorem dX7_tellInto_59 : decode cX7_tellInto 59 = .ok (.aload_n 0, 1) := by decide +kernel
theorem dX7_tellInto_60 : decode cX7_tellInto 60 = .ok (.invokevirtual 47, 3) := by decide +kernel
theorem dX7_tellInto_63 : decode cX7_tellInto 63 = .ok (.istore_n 3, 1) := by decide +kernel
theorem dX7_tellInto_64 : decode cX7_tellInto 64 = .ok (.iload_n 3, 1) := by decide +kernel
theorem dX7_tellInto_65 : decode cX7_tellInto 65 = .ok (.aload_n 0, 1) := by decide +kernel
theorem dX7_tellInto_66 : decode cX7_tellInto 66 = .ok (.getfield 15, 3) := by decide +kernel
theorem dX7_tellInto_69 : decode cX7_tellInto 69 = .ok (.if_icmp .ge 27, 3) := by decide +kernel
theorem dX7_tellInto_72 : decode cX7_tellInto 72 = .ok (.aload_n 1, 1) := by decide +kernel
theorem dX7_tellInto_73 : decode cX7_tellInto 73 = .ok (.aload_n 0, 1) := by decide +kernel
theorem dX7_tellInto_74 : decode cX7_tellInto 74 = .ok (.iload_n 3, 1) := by decide +kernel
theorem dX7_tellInto_75 : decode cX7_tellInto 75 = .ok (.iconst 1, 1) := by decide +kernel
theorem dX7_tellInto_76 : decode cX7_tellInto 76 = .ok (.iadd, 1) := by decide +kernel
theorem dX7_tellInto_77 : decode cX7_tellInto 77 = .ok (.invokevirtual 31, 3) := by decide +kernel
theorem dX7_tellInto_80 : decode cX7_tellInto 80 = .ok (.aload_n 0, 1) := by decide +kernel
theorem dX7_tellInto_81 : decode cX7_tellInto 81 = .ok (.iload_n 3, 1) := by decide +kernel
theorem dX7_tellInto_82 : decode cX7_tellInto 82 = .ok (.iconst 2, 1) := by decide +kernel
theorem dX7_tellInto_83 : decode cX7_tellInto 83 = .ok (.iadd, 1) := by decide +kernel
theorem dX7_tellInto_84 : decode cX7_tellInto 84 = .ok (.invokevirtual 31, 3) := by decide +kernel
theorem dX7_tellInto_87 : decode cX7_tellInto 87 = .ok (.invokevirtual 50, 3) := by decide +kernel
theorem dX7_tellInto_90 : decode cX7_tellInto 90 = .ok (.iinc 3 3, 3) := by decide +kernel
theorem dX7_tellInto_93 : decode cX7_tellInto 93 = .ok (.goto (-29), 3) := by decide +kernel
theorem dX7_tellInto_96 : decode cX7_tellInto 96 = .ok (.return_, 1) := by decide +kernel
theorem dX7_figureAt_0 : decode cX7_figureAt 0 = .ok (.aload_n 0, 1) := by decide +kernel
theorem dX7_figureAt_1 : decode cX7_figureAt 1 = .ok (.getfield 9, 3) := by decide +kernel
theorem dX7_figureAt_4 : decode cX7_figureAt 4 = .ok (.iload_n 1, 1) := by decide +kernel
theorem dX7_figureAt_5 : decode cX7_figureAt 5 = .ok (.invokestatic 53, 3) := by decide +kernel
theorem dX7_figureAt_8 : decode cX7_figureAt 8 = .ok (.bipush 48, 2) := by decide +kernel
theorem dX7_figureAt_10 : decode cX7_figureAt 10 = .ok (.isub, 1) := by decide +kernel
theorem dX7_figureAt_11 : decode cX7_figureAt 11 = .ok (.ireturn, 1) := by decide +kernel
theorem dX7_isFigure_0 : decode cX7_isFigure 0 = .ok (.aload_n 0, 1) := by decide +kernel
theorem dX7_isFigure_1 : decode cX7_isFigure 1 = .ok (.iload_n 1, 1) := by decide +kernel
theorem dX7_isFigure_2 : decode cX7_isFigure 2 = .ok (.invokevirtual 31, 3) := by decide +kernel
theorem dX7_isFigure_5 : decode cX7_isFigure 5 = .ok (.istore 4, 2) := by decide +kernel
theorem dX7_isFigure_7 : decode cX7_isFigure 7 = .ok (.iload 4, 2) := by decide +kernel
theorem dX7_isFigure_9 : decode cX7_isFigure 9 = .ok (.iload_n 2, 1) := by decide +kernel
theorem dX7_isFigure_10 : decode cX7_isFigure 10 = .ok (.if_icmp .lt 13, 3) := by decide +kernel
theorem dX7_isFigure_13 : decode cX7_isFigure 13 = .ok (.iload 4, 2) := by decide +kernel
theorem dX7_isFigure_15 : decode cX7_isFigure 15 = .ok (.iload_n 3, 1) := by decide +kernel
theorem dX7_isFigure_16 : decode cX7_isFigure 16 = .ok (.if_icmp .gt 7, 3) := by decide +kernel
theorem dX7_isFigure_19 : decode cX7_isFigure 19 = .ok (.iconst 1, 1) := by decide +kernel
theorem dX7_isFigure_20 : decode cX7_isFigure 20 = .ok (.goto 4, 3) := by decide +kernel
theorem dX7_isFigure_23 : decode cX7_isFigure 23 = .ok (.iconst 0, 1) := by decide +kernel
theorem dX7_isFigure_24 : decode cX7_isFigure 24 = .ok (.ireturn, 1) := by decide +kernel
theorem dX7_planStart_0 : decode cX7_planStart 0 = .ok (.iconst 3, 1) := by decide +kernel
theorem dX7_planStart_1 : decode cX7_planStart 1 = .ok (.iconst 2, 1) := by decide +kernel
theorem dX7_planStart_2 : decode cX7_planStart 2 = .ok (.aload_n 0, 1) := by decide +kernel
theorem dX7_planStart_3 : decode cX7_planStart 3 = .ok (.iconst 2, 1) := by decide +kernel
theorem dX7_planStart_4 : decode cX7_planStart 4 = .ok (.invokevirtual 31, 3) := by decide +kernel
theorem dX7_planStart_7 : decode cX7_planStart 7 = .ok (.imul, 1) := by decide +kernel
theorem dX7_planStart_8 : decode cX7_planStart 8 = .ok (.iadd, 1) := by decide +kernel
theorem dX7_planStart_9 : decode cX7_planStart 9 = .ok (.ireturn, 1) := by decide +kernel
theorem dX7_wholeLength_0 : decode cX7_wholeLength 0 = .ok (.aload_n 0, 1) := by decide +kernel
theorem dX7_wholeLength_1 : decode cX7_wholeLength 1 = .ok (.invokevirtual 47, 3) := by decide +kernel
theorem dX7_wholeLength_4 : decode cX7_wholeLength 4 = .ok (.iconst 3, 1) := by decide +kernel
theorem dX7_wholeLength_5 : decode cX7_wholeLength 5 = .ok (.aload_n 0, 1) := by decide +kernel
theorem dX7_wholeLength_6 : decode cX7_wholeLength 6 = .ok (.iconst 2, 1) := by decide +kernel
theorem dX7_wholeLength_7 : decode cX7_wholeLength 7 = .ok (.invokevirtual 31, 3) := by decide +kernel
theorem dX7_wholeLength_10 : decode cX7_wholeLength 10 = .ok (.iconst 1, 1) := by decide +kernel
theorem dX7_wholeLength_11 : decode cX7_wholeLength 11 = .ok (.isub, 1) := by decide +kernel
theorem dX7_wholeLength_12 : decode cX7_wholeLength 12 = .ok (.imul, 1) := by decide +kernel
theorem dX7_wholeLength_13 : decode cX7_wholeLength 13 = .ok (.iadd, 1) := by decide +kernel
theorem dX7_wholeLength_14 : decode cX7_wholeLength 14 = .ok (.ireturn, 1) := by decide +kernel
theorem dX7_fits_0 : decode cX7_fits 0 = .ok (.iload_n 1, 1) := by decide +kernel
theorem dX7_fits_1 : decode cX7_fits 1 = .ok (.iconst 3, 1) := by decide +kernel
theorem dX7_fits_2 : decode cX7_fits 2 = .ok (.if_icmp .ge 9, 3) := by decide +kernel
theorem dX7_fits_5 : decode cX7_fits 5 = .ok (.aload_n 0, 1) := by decide +kernel
theorem dX7_fits_6 : decode cX7_fits 6 = .ok (.iload_n 1, 1) := by decide +kernel
theorem dX7_fits_7 : decode cX7_fits 7 = .ok (.invokevirtual 57, 3) := by decide +kernel
theorem dX7_fits_10 : decode cX7_fits 10 = .ok (.ireturn, 1) := by decide +kernel
theorem dX7_fits_11 : decode cX7_fits 11 = .ok (.aload_n 0, 1) := by decide +kernel
theorem dX7_fits_12 : decode cX7_fits 12 = .ok (.invokevirtual 47, 3) := by decide +kernel
theorem dX7_fits_15 : decode cX7_fits 15 = .ok (.istore_n 2, 1) := by decide +kernel
theorem dX7_fits_16 : decode cX7_fits 16 = .ok (.iload_n 1, 1) := by decide +kernel
theorem dX7_fits_17 : decode cX7_fits 17 = .ok (.iload_n 2, 1) := by decide +kernel
theorem dX7_fits_18 : decode cX7_fits 18 = .ok (.if_icmp .ge 24, 3) := by decide +kernel
theorem dX7_fits_21 : decode cX7_fits 21 = .ok (.aload_n 0, 1) := by decide +kernel
theorem dX7_fits_22 : decode cX7_fits 22 = .ok (.iload_n 1, 1) := by decide +kernel
theorem dX7_fits_23 : decode cX7_fits 23 = .ok (.iconst 1, 1) := by decide +kernel
theorem dX7_fits_24 : decode cX7_fits 24 = .ok (.iload_n 1, 1) := by decide +kernel
theorem dX7_fits_25 : decode cX7_fits 25 = .ok (.iconst 3, 1) := by decide +kernel
theorem dX7_fits_26 : decode cX7_fits 26 = .ok (.isub, 1) := by decide +kernel
theorem dX7_fits_27 : decode cX7_fits 27 = .ok (.iconst 2, 1) := by decide +kernel
theorem dX7_fits_28 : decode cX7_fits 28 = .ok (.irem, 1) := by decide +kernel
theorem dX7_fits_29 : decode cX7_fits 29 = .ok (.ifCond .ne 8, 3) := by decide +kernel
theorem dX7_fits_32 : decode cX7_fits 32 = .ok (.bipush 9, 2) := by decide +kernel
theorem dX7_fits_34 : decode cX7_fits 34 = .ok (.goto 4, 3) := by decide +kernel
theorem dX7_fits_37 : decode cX7_fits 37 = .ok (.iconst 5, 1) := by decide +kernel
theorem dX7_fits_38 : decode cX7_fits 38 = .ok (.invokevirtual 60, 3) := by decide +kernel
theorem dX7_fits_41 : decode cX7_fits 41 = .ok (.ireturn, 1) := by decide +kernel
theorem dX7_fits_42 : decode cX7_fits 42 = .ok (.iload_n 1, 1) := by decide +kernel
theorem dX7_fits_43 : decode cX7_fits 43 = .ok (.aload_n 0, 1) := by decide +kernel
theorem dX7_fits_44 : decode cX7_fits 44 = .ok (.invokevirtual 27, 3) := by decide +kernel
theorem dX7_fits_47 : decode cX7_fits 47 = .ok (.if_icmp .ge 16, 3) := by decide +kernel
theorem dX7_fits_50 : decode cX7_fits 50 = .ok (.aload_n 0, 1) := by decide +kernel
theorem dX7_fits_51 : decode cX7_fits 51 = .ok (.iload_n 1, 1) := by decide +kernel
theorem dX7_fits_52 : decode cX7_fits 52 = .ok (.iload_n 2, 1) := by decide +kernel
theorem dX7_fits_53 : decode cX7_fits 53 = .ok (.invokevirtual 64, 3) := by decide +kernel
theorem dX7_fits_56 : decode cX7_fits 56 = .ok (.ifCond .eq 7, 3) := by decide +kernel
theorem dX7_fits_59 : decode cX7_fits 59 = .ok (.iconst 1, 1) := by decide +kernel
theorem dX7_fits_60 : decode cX7_fits 60 = .ok (.goto 4, 3) := by decide +kernel
theorem dX7_fits_63 : decode cX7_fits 63 = .ok (.iconst 0, 1) := by decide +kernel
theorem dX7_fits_64 : decode cX7_fits 64 = .ok (.ireturn, 1) := by decide +kernel
theorem dX7_fitsInHead_0 : decode cX7_fitsInHead 0 = .ok (.iload_n 1, 1) := by decide +kernel
theorem dX7_fitsInHead_1 : decode cX7_fitsInHead 1 = .ok (.lookupswitch 44 #[(1, 27), (2, 35)], 27) := by decide +kernel
theorem dX7_fitsInHead_28 : decode cX7_fitsInHead 28 = .ok (.aload_n 0, 1) := by decide +kernel
theorem dX7_fitsInHead_29 : decode cX7_fitsInHead 29 = .ok (.iload_n 1, 1) := by decide +kernel
theorem dX7_fitsInHead_30 : decode cX7_fitsInHead 30 = .ok (.iconst 1, 1) := by decide +kernel
theorem dX7_fitsInHead_31 : decode cX7_fitsInHead 31 = .ok (.iconst 3, 1) := by decide +kernel
theorem dX7_fitsInHead_32 : decode cX7_fitsInHead 32 = .ok (.invokevirtual 60, 3) := by decide +kernel
theorem dX7_fitsInHead_35 : decode cX7_fitsInHead 35 = .ok (.ireturn, 1) := by decide +kernel
theorem dX7_fitsInHead_36 : decode cX7_fitsInHead 36 = .ok (.aload_n 0, 1) := by decide +kernel
theorem dX7_fitsInHead_37 : decode cX7_fitsInHead 37 = .ok (.iload_n 1, 1) := by decide +kernel
theorem dX7_fitsInHead_38 : decode cX7_fitsInHead 38 = .ok (.iconst 1, 1) := by decide +kernel
theorem dX7_fitsInHead_39 : decode cX7_fitsInHead 39 = .ok (.bipush 8, 2) := by decide +kernel
theorem dX7_fitsInHead_41 : decode cX7_fitsInHead 41 = .ok (.invokevirtual 60, 3) := by decide +kernel
theorem dX7_fitsInHead_44 : decode cX7_fitsInHead 44 = .ok (.ireturn, 1) := by decide +kernel
theorem dX7_fitsInHead_45 : decode cX7_fitsInHead 45 = .ok (.aload_n 0, 1) := by decide +kernel
theorem dX7_fitsInHead_46 : decode cX7_fitsInHead 46 = .ok (.getfield 9, 3) := by decide +kernel
theorem dX7_fitsInHead_49 : decode cX7_fitsInHead 49 = .ok (.iload_n 1, 1) := by decide +kernel
theorem dX7_fitsInHead_50 : decode cX7_fitsInHead 50 = .ok (.invokestatic 53, 3) := by decide +kernel
theorem dX7_fitsInHead_53 : decode cX7_fitsInHead 53 = .ok (.bipush 84, 2) := by decide +kernel
theorem dX7_fitsInHead_55 : decode cX7_fitsInHead 55 = .ok (.if_icmp .ne 7, 3) := by decide +kernel
theorem dX7_fitsInHead_58 : decode cX7_fitsInHead 58 = .ok (.iconst 1, 1) := by decide +kernel
theorem dX7_fitsInHead_59 : decode cX7_fitsInHead 59 = .ok (.goto 4, 3) := by decide +kernel
theorem dX7_fitsInHead_62 : decode cX7_fitsInHead 62 = .ok (.iconst 0, 1) := by decide +kernel
theorem dX7_fitsInHead_63 : decode cX7_fitsInHead 63 = .ok (.ireturn, 1) := by decide +kernel
theorem dX7_fitsInPlan_0 : decode cX7_fitsInPlan 0 = .ok (.aload_n 0, 1) := by decide +kernel
theorem dX7_fitsInPlan_1 : decode cX7_fitsInPlan 1 = .ok (.iload_n 1, 1) := by decide +kernel
theorem dX7_fitsInPlan_2 : decode cX7_fitsInPlan 2 = .ok (.invokevirtual 31, 3) := by decide +kernel
theorem dX7_fitsInPlan_5 : decode cX7_fitsInPlan 5 = .ok (.istore_n 3, 1) := by decide +kernel
theorem dX7_fitsInPlan_6 : decode cX7_fitsInPlan 6 = .ok (.iload_n 1, 1) := by decide +kernel
theorem dX7_fitsInPlan_7 : decode cX7_fitsInPlan 7 = .ok (.iload_n 2, 1) := by decide +kernel
theorem dX7_fitsInPlan_8 : decode cX7_fitsInPlan 8 = .ok (.isub, 1) := by decide +kernel
theorem dX7_fitsInPlan_9 : decode cX7_fitsInPlan 9 = .ok (.iconst 3, 1) := by decide +kernel
theorem dX7_fitsInPlan_10 : decode cX7_fitsInPlan 10 = .ok (.irem, 1) := by decide +kernel
theorem dX7_fitsInPlan_11 : decode cX7_fitsInPlan 11 = .ok (.lookupswitch 76 #[(0, 25), (1, 44)], 25) := by decide +kernel
theorem dX7_fitsInPlan_36 : decode cX7_fitsInPlan 36 = .ok (.aload_n 0, 1) := by decide +kernel
theorem dX7_fitsInPlan_37 : decode cX7_fitsInPlan 37 = .ok (.getfield 9, 3) := by decide +kernel
theorem dX7_fitsInPlan_40 : decode cX7_fitsInPlan 40 = .ok (.iload_n 1, 1) := by decide +kernel
theorem dX7_fitsInPlan_41 : decode cX7_fitsInPlan 41 = .ok (.invokestatic 53, 3) := by decide +kernel
theorem dX7_fitsInPlan_44 : decode cX7_fitsInPlan 44 = .ok (.bipush 116, 2) := by decide +kernel
theorem dX7_fitsInPlan_46 : decode cX7_fitsInPlan 46 = .ok (.if_icmp .ne 7, 3) := by decide +kernel
theorem dX7_fitsInPlan_49 : decode cX7_fitsInPlan 49 = .ok (.iconst 1, 1) := by decide +kernel
theorem dX7_fitsInPlan_50 : decode cX7_fitsInPlan 50 = .ok (.goto 4, 3) := by decide +kernel
theorem dX7_fitsInPlan_53 : decode cX7_fitsInPlan 53 = .ok (.iconst 0, 1) := by decide +kernel
theorem dX7_fitsInPlan_54 : decode cX7_fitsInPlan 54 = .ok (.ireturn, 1) := by decide +kernel
theorem dX7_fitsInPlan_55 : decode cX7_fitsInPlan 55 = .ok (.aload_n 0, 1) := by decide +kernel
theorem dX7_fitsInPlan_56 : decode cX7_fitsInPlan 56 = .ok (.iload_n 1, 1) := by decide +kernel
theorem dX7_fitsInPlan_57 : decode cX7_fitsInPlan 57 = .ok (.iconst 1, 1) := by decide +kernel
theorem dX7_fitsInPlan_58 : decode cX7_fitsInPlan 58 = .ok (.aload_n 0, 1) := by decide +kernel
theorem dX7_fitsInPlan_59 : decode cX7_fitsInPlan 59 = .ok (.iconst 2, 1) := by decide +kernel
theorem dX7_fitsInPlan_60 : decode cX7_fitsInPlan 60 = .ok (.invokevirtual 31, 3) := by decide +kernel
theorem dX7_fitsInPlan_63 : decode cX7_fitsInPlan 63 = .ok (.iconst 1, 1) := by decide +kernel
theorem dX7_fitsInPlan_64 : decode cX7_fitsInPlan 64 = .ok (.isub, 1) := by decide +kernel
theorem dX7_fitsInPlan_65 : decode cX7_fitsInPlan 65 = .ok (.invokevirtual 60, 3) := by decide +kernel
theorem dX7_fitsInPlan_68 : decode cX7_fitsInPlan 68 = .ok (.ifCond .eq 17, 3) := by decide +kernel
theorem dX7_fitsInPlan_71 : decode cX7_fitsInPlan 71 = .ok (.aload_n 0, 1) := by decide +kernel
theorem dX7_fitsInPlan_72 : decode cX7_fitsInPlan 72 = .ok (.iload_n 3, 1) := by decide +kernel
theorem dX7_fitsInPlan_73 : decode cX7_fitsInPlan 73 = .ok (.iload_n 2, 1) := by decide +kernel
theorem dX7_fitsInPlan_74 : decode cX7_fitsInPlan 74 = .ok (.iload_n 1, 1) := by decide +kernel
theorem dX7_fitsInPlan_75 : decode cX7_fitsInPlan 75 = .ok (.invokevirtual 68, 3) := by decide +kernel
theorem dX7_fitsInPlan_78 : decode cX7_fitsInPlan 78 = .ok (.ifCond .ne 7, 3) := by decide +kernel
theorem dX7_fitsInPlan_81 : decode cX7_fitsInPlan 81 = .ok (.iconst 1, 1) := by decide +kernel
theorem dX7_fitsInPlan_82 : decode cX7_fitsInPlan 82 = .ok (.goto 4, 3) := by decide +kernel
theorem dX7_fitsInPlan_85 : decode cX7_fitsInPlan 85 = .ok (.iconst 0, 1) := by decide +kernel
theorem dX7_fitsInPlan_86 : decode cX7_fitsInPlan 86 = .ok (.ireturn, 1) := by decide +kernel
theorem dX7_fitsInPlan_87 : decode cX7_fitsInPlan 87 = .ok (.iload_n 3, 1) := by decide +kernel
theorem dX7_fitsInPlan_88 : decode cX7_fitsInPlan 88 = .ok (.ifCond .eq 15, 3) := by decide +kernel
theorem dX7_fitsInPlan_91 : decode cX7_fitsInPlan 91 = .ok (.aload_n 0, 1) := by decide +kernel
theorem dX7_fitsInPlan_92 : decode cX7_fitsInPlan 92 = .ok (.iload_n 3, 1) := by decide +kernel
theorem dX7_fitsInPlan_93 : decode cX7_fitsInPlan 93 = .ok (.iload_n 2, 1) := by decide +kernel
theorem dX7_fitsInPlan_94 : decode cX7_fitsInPlan 94 = .ok (.iload_n 1, 1) := by decide +kernel
theorem dX7_fitsInPlan_95 : decode cX7_fitsInPlan 95 = .ok (.iconst 1, 1) := by decide +kernel
theorem dX7_fitsInPlan_96 : decode cX7_fitsInPlan 96 = .ok (.isub, 1) := by decide +kernel
theorem dX7_fitsInPlan_97 : decode cX7_fitsInPlan 97 = .ok (.invokevirtual 68, 3) := by decide +kernel
theorem dX7_fitsInPlan_100 : decode cX7_fitsInPlan 100 = .ok (.ifCond .eq 7, 3) := by decide +kernel
theorem dX7_fitsInPlan_103 : decode cX7_fitsInPlan 103 = .ok (.iconst 1, 1) := by decide +kernel
theorem dX7_fitsInPlan_104 : decode cX7_fitsInPlan 104 = .ok (.goto 4, 3) := by decide +kernel
theorem dX7_fitsInPlan_107 : decode cX7_fitsInPlan 107 = .ok (.iconst 0, 1) := by decide +kernel
theorem dX7_fitsInPlan_108 : decode cX7_fitsInPlan 108 = .ok (.ireturn, 1) := by decide +kernel
theorem dX7_stands_0 : decode cX7_stands 0 = .ok (.iload_n 2, 1) := by decide +kernel
theorem dX7_stands_1 : decode cX7_stands 1 = .ok (.iconst 1, 1) := by decide +kernel
theorem dX7_stands_2 : decode cX7_stands 2 = .ok (.iadd, 1) := by decide +kernel
theorem dX7_stands_3 : decode cX7_stands 3 = .ok (.istore 4, 2) := by decide +kernel
theorem dX7_stands_5 : decode cX7_stands 5 = .ok (.iload 4, 2) := by decide +kernel
theorem dX7_stands_7 : decode cX7_stands 7 = .ok (.iload_n 3, 1) := by decide +kernel
theorem dX7_stands_8 : decode cX7_stands 8 = .ok (.if_icmp .ge 21, 3) := by decide +kernel
theorem dX7_stands_11 : decode cX7_stands 11 = .ok (.aload_n 0, 1) := by decide +kernel
theorem dX7_stands_12 : decode cX7_stands 12 = .ok (.iload 4, 2) := by decide +kernel
theorem dX7_stands_14 : decode cX7_stands 14 = .ok (.invokevirtual 31, 3) := by decide +kernel
theorem dX7_stands_17 : decode cX7_stands 17 = .ok (.iload_n 1, 1) := by decide +kernel
theorem dX7_stands_18 : decode cX7_stands 18 = .ok (.if_icmp .ne 5, 3) := by decide +kernel
theorem dX7_stands_21 : decode cX7_stands 21 = .ok (.iconst 1, 1) := by decide +kernel
theorem dX7_stands_22 : decode cX7_stands 22 = .ok (.ireturn, 1) := by decide +kernel
theorem dX7_stands_23 : decode cX7_stands 23 = .ok (.iinc 4 3, 3) := by decide +kernel
theorem dX7_stands_26 : decode cX7_stands 26 = .ok (.goto (-21), 3) := by decide +kernel
theorem dX7_stands_29 : decode cX7_stands 29 = .ok (.iconst 0, 1) := by decide +kernel
theorem dX7_stands_30 : decode cX7_stands 30 = .ok (.ireturn, 1) := by decide +kernel
theorem dX8_init_0 : decode cX8_init 0 = .ok (.aload_n 0, 1) := by decide +kernel
theorem dX8_init_1 : decode cX8_init 1 = .ok (.invokespecial 3, 3) := by decide +kernel
theorem dX8_init_4 : decode cX8_init 4 = .ok (.aload_n 0, 1) := by decide +kernel
theorem dX8_init_5 : decode cX8_init 5 = .ok (.bipush 24, 2) := by decide +kernel
theorem dX8_init_7 : decode cX8_init 7 = .ok (.newarray .int, 2) := by decide +kernel
theorem dX8_init_9 : decode cX8_init 9 = .ok (.putfield 9, 3) := by decide +kernel
theorem dX8_init_12 : decode cX8_init 12 = .ok (.aload_n 0, 1) := by decide +kernel
theorem dX8_init_13 : decode cX8_init 13 = .ok (.bipush 8, 2) := by decide +kernel
theorem dX8_init_15 : decode cX8_init 15 = .ok (.newarray .int, 2) := by decide +kernel
theorem dX8_init_17 : decode cX8_init 17 = .ok (.putfield 15, 3) := by decide +kernel
theorem dX8_init_20 : decode cX8_init 20 = .ok (.return_, 1) := by decide +kernel
theorem dX8_follow_0 : decode cX8_follow 0 = .ok (.iconst 0, 1) := by decide +kernel
theorem dX8_follow_1 : decode cX8_follow 1 = .ok (.istore_n 2, 1) := by decide +kernel
theorem dX8_follow_2 : decode cX8_follow 2 = .ok (.iload_n 2, 1) := by decide +kernel
theorem dX8_follow_3 : decode cX8_follow 3 = .ok (.bipush 8, 2) := by decide +kernel
theorem dX8_follow_5 : decode cX8_follow 5 = .ok (.if_icmp .ge 18, 3) := by decide +kernel
theorem dX8_follow_8 : decode cX8_follow 8 = .ok (.aload_n 0, 1) := by decide +kernel
theorem dX8_follow_9 : decode cX8_follow 9 = .ok (.getfield 15, 3) := by decide +kernel
theorem dX8_follow_12 : decode cX8_follow 12 = .ok (.iload_n 2, 1) := by decide +kernel
theorem dX8_follow_13 : decode cX8_follow 13 = .ok (.iconst 0, 1) := by decide +kernel
theorem dX8_follow_14 : decode cX8_follow 14 = .ok (.invokestatic 18, 3) := by decide +kernel
theorem dX8_follow_17 : decode cX8_follow 17 = .ok (.iinc 2 1, 3) := by decide +kernel
theorem dX8_follow_20 : decode cX8_follow 20 = .ok (.goto (-18), 3) := by decide +kernel
theorem dX8_follow_23 : decode cX8_follow 23 = .ok (.iconst 0, 1) := by decide +kernel
theorem dX8_follow_24 : decode cX8_follow 24 = .ok (.istore_n 2, 1) := by decide +kernel
theorem dX8_follow_25 : decode cX8_follow 25 = .ok (.iconst 0, 1) := by decide +kernel
theorem dX8_follow_26 : decode cX8_follow 26 = .ok (.istore_n 3, 1) := by decide +kernel
theorem dX8_follow_27 : decode cX8_follow 27 = .ok (.iload_n 3, 1) := by decide +kernel
theorem dX8_follow_28 : decode cX8_follow 28 = .ok (.aload_n 1, 1) := by decide +kernel
theorem dX8_follow_29 : decode cX8_follow 29 = .ok (.invokevirtual 22, 3) := by decide +kernel
theorem dX8_follow_32 : decode cX8_follow 32 = .ok (.if_icmp .ge 44, 3) := by decide +kernel
theorem dX8_follow_35 : decode cX8_follow 35 = .ok (.iconst 0, 1) := by decide +kernel
theorem dX8_follow_36 : decode cX8_follow 36 = .ok (.istore 4, 2) := by decide +kernel
theorem dX8_follow_38 : decode cX8_follow 38 = .ok (.iload 4, 2) := by decide +kernel
theorem dX8_follow_40 : decode cX8_follow 40 = .ok (.aload_n 1, 1) := by decide +kernel
theorem dX8_follow_41 : decode cX8_follow 41 = .ok (.invokevirtual 28, 3) := by decide +kernel
theorem dX8_follow_44 : decode cX8_follow 44 = .ok (.if_icmp .ge 26, 3) := by decide +kernel
theorem dX8_follow_47 : decode cX8_follow 47 = .ok (.iload_n 2, 1) := by decide +kernel
theorem dX8_follow_48 : decode cX8_follow 48 = .ok (.aload_n 0, 1) := by decide +kernel
theorem dX8_follow_49 : decode cX8_follow 49 = .ok (.aload_n 1, 1) := by decide +kernel
theorem dX8_follow_50 : decode cX8_follow 50 = .ok (.aload_n 1, 1) := by decide +kernel
theorem dX8_follow_51 : decode cX8_follow 51 = .ok (.iload 4, 2) := by decide +kernel
theorem dX8_follow_53 : decode cX8_follow 53 = .ok (.invokevirtual 31, 3) := by decide +kernel
theorem dX8_follow_56 : decode cX8_follow 56 = .ok (.iload_n 3, 1) := by decide +kernel
theorem dX8_follow_57 : decode cX8_follow 57 = .ok (.invokevirtual 35, 3) := by decide +kernel
theorem dX8_follow_60 : decode cX8_follow 60 = .ok (.invokestatic 39, 3) := by decide +kernel
theorem dX8_follow_63 : decode cX8_follow 63 = .ok (.istore_n 2, 1) := by decide +kernel
theorem dX8_follow_64 : decode cX8_follow 64 = .ok (.iinc 4 1, 3) := by decide +kernel
theorem dX8_follow_67 : decode cX8_follow 67 = .ok (.goto (-29), 3) := by decide +kernel
theorem dX8_follow_70 : decode cX8_follow 70 = .ok (.iinc 3 1, 3) := by decide +kernel
theorem dX8_follow_73 : decode cX8_follow 73 = .ok (.goto (-46), 3) := by decide +kernel
theorem dX8_follow_76 : decode cX8_follow 76 = .ok (.iload_n 2, 1) := by decide +kernel
theorem dX8_follow_77 : decode cX8_follow 77 = .ok (.ireturn, 1) := by decide +kernel
theorem dX8_send_0 : decode cX8_send 0 = .ok (.aload_n 1, 1) := by decide +kernel
theorem dX8_send_1 : decode cX8_send 1 = .ok (.iload_n 2, 1) := by decide +kernel
theorem dX8_send_2 : decode cX8_send 2 = .ok (.invokevirtual 45, 3) := by decide +kernel
theorem dX8_send_5 : decode cX8_send 5 = .ok (.istore 4, 2) := by decide +kernel
theorem dX8_send_7 : decode cX8_send 7 = .ok (.aload_n 0, 1) := by decide +kernel
theorem dX8_send_8 : decode cX8_send 8 = .ok (.iload 4, 2) := by decide +kernel
theorem dX8_send_10 : decode cX8_send 10 = .ok (.iload_n 3, 1) := by decide +kernel
theorem dX8_send_11 : decode cX8_send 11 = .ok (.invokevirtual 48, 3) := by decide +kernel
theorem dX8_send_14 : decode cX8_send 14 = .ok (.aload_n 0, 1) := by decide +kernel
theorem dX8_send_15 : decode cX8_send 15 = .ok (.getfield 15, 3) := by decide +kernel
theorem dX8_send_18 : decode cX8_send 18 = .ok (.iload 4, 2) := by decide +kernel
theorem dX8_send_20 : decode cX8_send 20 = .ok (.invokestatic 51, 3) := by decide +kernel
theorem dX8_send_23 : decode cX8_send 23 = .ok (.invokestatic 39, 3) := by decide +kernel
theorem dX8_send_26 : decode cX8_send 26 = .ok (.istore 5, 2) := by decide +kernel
theorem dX8_send_28 : decode cX8_send 28 = .ok (.iload 5, 2) := by decide +kernel
theorem dX8_send_30 : decode cX8_send 30 = .ok (.aload_n 1, 1) := by decide +kernel
theorem dX8_send_31 : decode cX8_send 31 = .ok (.iload 4, 2) := by decide +kernel
theorem dX8_send_33 : decode cX8_send 33 = .ok (.invokevirtual 55, 3) := by decide +kernel
theorem dX8_send_36 : decode cX8_send 36 = .ok (.iadd, 1) := by decide +kernel
theorem dX8_send_37 : decode cX8_send 37 = .ok (.istore 6, 2) := by decide +kernel
theorem dX8_send_39 : decode cX8_send 39 = .ok (.aload_n 0, 1) := by decide +kernel
theorem dX8_send_40 : decode cX8_send 40 = .ok (.getfield 15, 3) := by decide +kernel
theorem dX8_send_43 : decode cX8_send 43 = .ok (.iload 4, 2) := by decide +kernel
theorem dX8_send_45 : decode cX8_send 45 = .ok (.iload 5, 2) := by decide +kernel
theorem dX8_send_47 : decode cX8_send 47 = .ok (.aload_n 1, 1) := by decide +kernel
theorem dX8_send_48 : decode cX8_send 48 = .ok (.iload 4, 2) := by decide +kernel
theorem dX8_send_50 : decode cX8_send 50 = .ok (.invokevirtual 58, 3) := by decide +kernel
theorem dX8_send_53 : decode cX8_send 53 = .ok (.iadd, 1) := by decide +kernel
theorem dX8_send_54 : decode cX8_send 54 = .ok (.invokestatic 18, 3) := by decide +kernel
theorem dX8_send_57 : decode cX8_send 57 = .ok (.aload_n 0, 1) := by decide +kernel
theorem dX8_send_58 : decode cX8_send 58 = .ok (.getfield 9, 3) := by decide +kernel
theorem dX8_send_61 : decode cX8_send 61 = .ok (.iload_n 3, 1) := by decide +kernel
theorem dX8_send_62 : decode cX8_send 62 = .ok (.bipush 8, 2) := by decide +kernel
theorem dX8_send_64 : decode cX8_send 64 = .ok (.imul, 1) := by decide +kernel
theorem dX8_send_65 : decode cX8_send 65 = .ok (.iload_n 2, 1) := by decide +kernel
theorem dX8_send_66 : decode cX8_send 66 = .ok (.iadd, 1) := by decide +kernel
theorem dX8_send_67 : decode cX8_send 67 = .ok (.iload 6, 2) := by decide +kernel
theorem dX8_send_69 : decode cX8_send 69 = .ok (.invokestatic 18, 3) := by decide +kernel
theorem dX8_send_72 : decode cX8_send 72 = .ok (.iload 6, 2) := by decide +kernel
theorem dX8_send_74 : decode cX8_send 74 = .ok (.ireturn, 1) := by decide +kernel
theorem dX8_tickOf_0 : decode cX8_tickOf 0 = .ok (.aload_n 0, 1) := by decide +kernel
theorem dX8_tickOf_1 : decode cX8_tickOf 1 = .ok (.getfield 9, 3) := by decide +kernel
theorem dX8_tickOf_4 : decode cX8_tickOf 4 = .ok (.iload_n 2, 1) := by decide +kernel
theorem dX8_tickOf_5 : decode cX8_tickOf 5 = .ok (.bipush 8, 2) := by decide +kernel
theorem dX8_tickOf_7 : decode cX8_tickOf 7 = .ok (.imul, 1) := by decide +kernel
theorem dX8_tickOf_8 : decode cX8_tickOf 8 = .ok (.iload_n 1, 1) := by decide +kernel
theorem dX8_tickOf_9 : decode cX8_tickOf 9 = .ok (.iadd, 1) := by decide +kernel
theorem dX8_tickOf_10 : decode cX8_tickOf 10 = .ok (.invokestatic 51, 3) := by decide +kernel
theorem dX8_tickOf_13 : decode cX8_tickOf 13 = .ok (.ireturn, 1) := by decide +kernel
theorem dX9_init_0 : decode cX9_init 0 = .ok (.aload_n 0, 1) := by decide +kernel
theorem dX9_init_1 : decode cX9_init 1 = .ok (.invokespecial 1, 3) := by decide +kernel
theorem dX9_init_4 : decode cX9_init 4 = .ok (.aload_n 0, 1) := by decide +kernel
theorem dX9_init_5 : decode cX9_init 5 = .ok (.new 7, 3) := by decide +kernel
theorem dX9_init_8 : decode cX9_init 8 = .ok (.dup, 1) := by decide +kernel
theorem dX9_init_9 : decode cX9_init 9 = .ok (.invokespecial 9, 3) := by decide +kernel
theorem dX9_init_12 : decode cX9_init 12 = .ok (.putfield 10, 3) := by decide +kernel
theorem dX9_init_15 : decode cX9_init 15 = .ok (.aload_n 0, 1) := by decide +kernel
theorem dX9_init_16 : decode cX9_init 16 = .ok (.new 7, 3) := by decide +kernel
theorem dX9_init_19 : decode cX9_init 19 = .ok (.dup, 1) := by decide +kernel
theorem dX9_init_20 : decode cX9_init 20 = .ok (.invokespecial 9, 3) := by decide +kernel
theorem dX9_init_23 : decode cX9_init 23 = .ok (.putfield 16, 3) := by decide +kernel
theorem dX9_init_26 : decode cX9_init 26 = .ok (.aload_n 0, 1) := by decide +kernel
theorem dX9_init_27 : decode cX9_init 27 = .ok (.new 19, 3) := by decide +kernel
theorem dX9_init_30 : decode cX9_init 30 = .ok (.dup, 1) := by decide +kernel
theorem dX9_init_31 : decode cX9_init 31 = .ok (.invokespecial 21, 3) := by decide +kernel
theorem dX9_init_34 : decode cX9_init 34 = .ok (.putfield 22, 3) := by decide +kernel
theorem dX9_init_37 : decode cX9_init 37 = .ok (.aload_n 0, 1) := by decide +kernel
theorem dX9_init_38 : decode cX9_init 38 = .ok (.new 26, 3) := by decide +kernel
theorem dX9_init_41 : decode cX9_init 41 = .ok (.dup, 1) := by decide +kernel
theorem dX9_init_42 : decode cX9_init 42 = .ok (.invokespecial 28, 3) := by decide +kernel
theorem dX9_init_45 : decode cX9_init 45 = .ok (.putfield 29, 3) := by decide +kernel
theorem dX9_init_48 : decode cX9_init 48 = .ok (.aload_n 0, 1) := by decide +kernel
theorem dX9_init_49 : decode cX9_init 49 = .ok (.new 33, 3) := by decide +kernel
theorem dX9_init_52 : decode cX9_init 52 = .ok (.dup, 1) := by decide +kernel
theorem dX9_init_53 : decode cX9_init 53 = .ok (.invokespecial 35, 3) := by decide +kernel
theorem dX9_init_56 : decode cX9_init 56 = .ok (.putfield 36, 3) := by decide +kernel
theorem dX9_init_59 : decode cX9_init 59 = .ok (.aload_n 0, 1) := by decide +kernel
theorem dX9_init_60 : decode cX9_init 60 = .ok (.new 40, 3) := by decide +kernel
theorem dX9_init_63 : decode cX9_init 63 = .ok (.dup, 1) := by decide +kernel
theorem dX9_init_64 : decode cX9_init 64 = .ok (.invokespecial 42, 3) := by decide +kernel
theorem dX9_init_67 : decode cX9_init 67 = .ok (.putfield 43, 3) := by decide +kernel
theorem dX9_init_70 : decode cX9_init 70 = .ok (.aload_n 0, 1) := by decide +kernel
theorem dX9_init_71 : decode cX9_init 71 = .ok (.new 47, 3) := by decide +kernel
theorem dX9_init_74 : decode cX9_init 74 = .ok (.dup, 1) := by decide +kernel
theorem dX9_init_75 : decode cX9_init 75 = .ok (.invokespecial 49, 3) := by decide +kernel
theorem dX9_init_78 : decode cX9_init 78 = .ok (.putfield 50, 3) := by decide +kernel
theorem dX9_init_81 : decode cX9_init 81 = .ok (.aload_n 0, 1) := by decide +kernel
theorem dX9_init_82 : decode cX9_init 82 = .ok (.new 54, 3) := by decide +kernel
theorem dX9_init_85 : decode cX9_init 85 = .ok (.dup, 1) := by decide +kernel
theorem dX9_init_86 : decode cX9_init 86 = .ok (.invokespecial 56, 3) := by decide +kernel
theorem dX9_init_89 : decode cX9_init 89 = .ok (.putfield 57, 3) := by decide +kernel
theorem dX9_init_92 : decode cX9_init 92 = .ok (.aload_n 0, 1) := by decide +kernel
theorem dX9_init_93 : decode cX9_init 93 = .ok (.new 61, 3) := by decide +kernel
theorem dX9_init_96 : decode cX9_init 96 = .ok (.dup, 1) := by decide +kernel
theorem dX9_init_97 : decode cX9_init 97 = .ok (.invokespecial 63, 3) := by decide +kernel
theorem dX9_init_100 : decode cX9_init 100 = .ok (.putfield 64, 3) := by decide +kernel
theorem dX9_init_103 : decode cX9_init 103 = .ok (.aload_n 0, 1) := by decide +kernel
theorem dX9_init_104 : decode cX9_init 104 = .ok (.iconst 4, 1) := by decide +kernel
theorem dX9_init_105 : decode cX9_init 105 = .ok (.newarray .int, 2) := by decide +kernel
theorem dX9_init_107 : decode cX9_init 107 = .ok (.putfield 68, 3) := by decide +kernel
theorem dX9_init_110 : decode cX9_init 110 = .ok (.return_, 1) := by decide +kernel
theorem dX9_write_0 : decode cX9_write 0 = .ok (.iload_n 1, 1) := by decide +kernel
theorem dX9_write_1 : decode cX9_write 1 = .ok (.ifCond .lt 10, 3) := by decide +kernel
theorem dX9_write_4 : decode cX9_write 4 = .ok (.iload_n 1, 1) := by decide +kernel
theorem dX9_write_5 : decode cX9_write 5 = .ok (.sipush 255, 3) := by decide +kernel
theorem dX9_write_8 : decode cX9_write 8 = .ok (.if_icmp .le 6, 3) := by decide +kernel
theorem dX9_write_11 : decode cX9_write 11 = .ok (.bipush (-2), 2) := by decide +kernel
theorem dX9_write_13 : decode cX9_write 13 = .ok (.ireturn, 1) := by decide +kernel
theorem dX9_write_14 : decode cX9_write 14 = .ok (.aload_n 0, 1) := by decide +kernel
theorem dX9_write_15 : decode cX9_write 15 = .ok (.getfield 43, 3) := by decide +kernel
theorem dX9_write_18 : decode cX9_write 18 = .ok (.iload_n 1, 1) := by decide +kernel
theorem dX9_write_19 : decode cX9_write 19 = .ok (.invokevirtual 72, 3) := by decide +kernel
theorem dX9_write_22 : decode cX9_write 22 = .ok (.ifCond .eq 13, 3) := by decide +kernel
theorem dX9_write_25 : decode cX9_write 25 = .ok (.aload_n 0, 1) := by decide +kernel
theorem dX9_write_26 : decode cX9_write 26 = .ok (.getfield 43, 3) := by decide +kernel
theorem dX9_write_29 : decode cX9_write 29 = .ok (.invokevirtual 76, 3) := by decide +kernel
theorem dX9_write_32 : decode cX9_write 32 = .ok (.goto 5, 3) := by decide +kernel
theorem dX9_write_35 : decode cX9_write 35 = .ok (.bipush (-4), 2) := by decide +kernel
theorem dX9_write_37 : decode cX9_write 37 = .ok (.ireturn, 1) := by decide +kernel
theorem dX9_wipe_0 : decode cX9_wipe 0 = .ok (.aload_n 0, 1) := by decide +kernel
theorem dX9_wipe_1 : decode cX9_wipe 1 = .ok (.getfield 43, 3) := by decide +kernel
theorem dX9_wipe_4 : decode cX9_wipe 4 = .ok (.invokevirtual 76, 3) := by decide +kernel
theorem dX9_wipe_7 : decode cX9_wipe 7 = .ok (.istore_n 1, 1) := by decide +kernel
theorem dX9_wipe_8 : decode cX9_wipe 8 = .ok (.aload_n 0, 1) := by decide +kernel
theorem dX9_wipe_9 : decode cX9_wipe 9 = .ok (.getfield 43, 3) := by decide +kernel
theorem dX9_wipe_12 : decode cX9_wipe 12 = .ok (.invokevirtual 80, 3) := by decide +kernel
theorem dX9_wipe_15 : decode cX9_wipe 15 = .ok (.iload_n 1, 1) := by decide +kernel
theorem dX9_wipe_16 : decode cX9_wipe 16 = .ok (.ireturn, 1) := by decide +kernel
theorem dX9_fault_0 : decode cX9_fault 0 = .ok (.aload_n 0, 1) := by decide +kernel
theorem dX9_fault_1 : decode cX9_fault 1 = .ok (.getfield 43, 3) := by decide +kernel
theorem dX9_fault_4 : decode cX9_fault 4 = .ok (.invokevirtual 83, 3) := by decide +kernel
theorem dX9_fault_7 : decode cX9_fault 7 = .ok (.ireturn, 1) := by decide +kernel
theorem dX9_telling_0 : decode cX9_telling 0 = .ok (.aload_n 0, 1) := by decide +kernel
theorem dX9_telling_1 : decode cX9_telling 1 = .ok (.getfield 43, 3) := by decide +kernel
theorem dX9_telling_4 : decode cX9_telling 4 = .ok (.invokevirtual 83, 3) := by decide +kernel
theorem dX9_telling_7 : decode cX9_telling 7 = .ok (.bipush (-9), 2) := by decide +kernel
theorem dX9_telling_9 : decode cX9_telling 9 = .ok (.if_icmp .eq 6, 3) := by decide +kernel
theorem dX9_telling_12 : decode cX9_telling 12 = .ok (.bipush (-3), 2) := by decide +kernel
theorem dX9_telling_14 : decode cX9_telling 14 = .ok (.ireturn, 1) := by decide +kernel
theorem dX9_telling_15 : decode cX9_telling 15 = .ok (.aload_n 0, 1) := by decide +kernel
theorem dX9_telling_16 : decode cX9_telling 16 = .ok (.getfield 43, 3) := by decide +kernel
theorem dX9_telling_19 : decode cX9_telling 19 = .ok (.aload_n 0, 1) := by decide +kernel
theorem dX9_telling_20 : decode cX9_telling 20 = .ok (.getfield 10, 3) := by decide +kernel
theorem dX9_telling_23 : decode cX9_telling 23 = .ok (.invokevirtual 86, 3) := by decide +kernel
theorem dX9_telling_26 : decode cX9_telling 26 = .ok (.aload_n 0, 1) := by decide +kernel
theorem dX9_telling_27 : decode cX9_telling 27 = .ok (.getfield 50, 3) := by decide +kernel
theorem dX9_telling_30 : decode cX9_telling 30 = .ok (.invokevirtual 90, 3) := by decide +kernel
theorem dX9_telling_33 : decode cX9_telling 33 = .ok (.aload_n 0, 1) := by decide +kernel
theorem dX9_telling_34 : decode cX9_telling 34 = .ok (.getfield 57, 3) := by decide +kernel
theorem dX9_telling_37 : decode cX9_telling 37 = .ok (.invokevirtual 93, 3) := by decide +kernel
theorem dX9_telling_40 : decode cX9_telling 40 = .ok (.aload_n 0, 1) := by decide +kernel
theorem dX9_telling_41 : decode cX9_telling 41 = .ok (.getfield 22, 3) := by decide +kernel
theorem dX9_telling_44 : decode cX9_telling 44 = .ok (.aload_n 0, 1) := by decide +kernel
theorem dX9_telling_45 : decode cX9_telling 45 = .ok (.getfield 10, 3) := by decide +kernel
theorem dX9_telling_48 : decode cX9_telling 48 = .ok (.invokevirtual 94, 3) := by decide +kernel
theorem dX9_telling_51 : decode cX9_telling 51 = .ok (.ireturn, 1) := by decide +kernel
theorem dX9_about_0 : decode cX9_about 0 = .ok (.iload_n 1, 1) := by decide +kernel
theorem dX9_about_1 : decode cX9_about 1 = .ok (.tableswitch 153 0 8 #[51, 59, 67, 79, 84, 113, 129, 137, 145], 51) := by decide +kernel
theorem dX9_about_52 : decode cX9_about 52 = .ok (.aload_n 0, 1) := by decide +kernel
theorem dX9_about_53 : decode cX9_about 53 = .ok (.getfield 10, 3) := by decide +kernel
theorem dX9_about_56 : decode cX9_about 56 = .ok (.invokevirtual 98, 3) := by decide +kernel
theorem dX9_about_59 : decode cX9_about 59 = .ok (.ireturn, 1) := by decide +kernel
theorem dX9_about_60 : decode cX9_about 60 = .ok (.aload_n 0, 1) := by decide +kernel
theorem dX9_about_61 : decode cX9_about 61 = .ok (.getfield 10, 3) := by decide +kernel
theorem dX9_about_64 : decode cX9_about 64 = .ok (.invokevirtual 101, 3) := by decide +kernel
theorem dX9_about_67 : decode cX9_about 67 = .ok (.ireturn, 1) := by decide +kernel
theorem dX9_about_68 : decode cX9_about 68 = .ok (.aload_n 0, 1) := by decide +kernel
theorem dX9_about_69 : decode cX9_about 69 = .ok (.getfield 22, 3) := by decide +kernel
theorem dX9_about_72 : decode cX9_about 72 = .ok (.aload_n 0, 1) := by decide +kernel
theorem dX9_about_73 : decode cX9_about 73 = .ok (.getfield 10, 3) := by decide +kernel
theorem dX9_about_76 : decode cX9_about 76 = .ok (.invokevirtual 94, 3) := by decide +kernel
theorem dX9_about_79 : decode cX9_about 79 = .ok (.ireturn, 1) := by decide +kernel
theorem dX9_about_80 : decode cX9_about 80 = .ok (.aload_n 0, 1) := by decide +kernel
theorem dX9_about_81 : decode cX9_about 81 = .ok (.invokevirtual 104, 3) := by decide +kernel
theorem dX9_about_84 : decode cX9_about 84 = .ok (.ireturn, 1) := by decide +kernel
theorem dX9_about_85 : decode cX9_about 85 = .ok (.aload_n 0, 1) := by decide +kernel
theorem dX9_about_86 : decode cX9_about 86 = .ok (.getfield 10, 3) := by decide +kernel
theorem dX9_about_89 : decode cX9_about 89 = .ok (.invokevirtual 98, 3) := by decide +kernel
theorem dX9_about_92 : decode cX9_about 92 = .ok (.bipush 6, 2) := by decide +kernel
theorem dX9_about_94 : decode cX9_about 94 = .ok (.if_icmp .le 8, 3) := by decide +kernel
theorem dX9_about_97 : decode cX9_about 97 = .ok (.bipush (-3), 2) := by decide +kernel
theorem dX9_about_99 : decode cX9_about 99 = .ok (.goto 14, 3) := by decide +kernel
theorem dX9_about_102 : decode cX9_about 102 = .ok (.aload_n 0, 1) := by decide +kernel
theorem dX9_about_103 : decode cX9_about 103 = .ok (.getfield 29, 3) := by decide +kernel
theorem dX9_about_106 : decode cX9_about 106 = .ok (.aload_n 0, 1) := by decide +kernel
theorem dX9_about_107 : decode cX9_about 107 = .ok (.getfield 10, 3) := by decide +kernel
theorem dX9_about_110 : decode cX9_about 110 = .ok (.invokevirtual 107, 3) := by decide +kernel
theorem dX9_about_113 : decode cX9_about 113 = .ok (.ireturn, 1) := by decide +kernel
theorem dX9_about_114 : decode cX9_about 114 = .ok (.aload_n 0, 1) := by decide +kernel
theorem dX9_about_115 : decode cX9_about 115 = .ok (.getfield 10, 3) := by decide +kernel
theorem dX9_about_118 : decode cX9_about 118 = .ok (.invokevirtual 101, 3) := by decide +kernel
theorem dX9_about_121 : decode cX9_about 121 = .ok (.aload_n 0, 1) := by decide +kernel
theorem dX9_about_122 : decode cX9_about 122 = .ok (.getfield 10, 3) := by decide +kernel
theorem dX9_about_125 : decode cX9_about 125 = .ok (.invokevirtual 110, 3) := by decide +kernel
theorem dX9_about_128 : decode cX9_about 128 = .ok (.imul, 1) := by decide +kernel
theorem dX9_about_129 : decode cX9_about 129 = .ok (.ireturn, 1) := by decide +kernel
theorem dX9_about_130 : decode cX9_about 130 = .ok (.aload_n 0, 1) := by decide +kernel
theorem dX9_about_131 : decode cX9_about 131 = .ok (.getfield 50, 3) := by decide +kernel
theorem dX9_about_134 : decode cX9_about 134 = .ok (.invokevirtual 113, 3) := by decide +kernel
theorem dX9_about_137 : decode cX9_about 137 = .ok (.ireturn, 1) := by decide +kernel
theorem dX9_about_138 : decode cX9_about 138 = .ok (.aload_n 0, 1) := by decide +kernel
theorem dX9_about_139 : decode cX9_about 139 = .ok (.getfield 64, 3) := by decide +kernel
theorem dX9_about_142 : decode cX9_about 142 = .ok (.invokevirtual 116, 3) := by decide +kernel
theorem dX9_about_145 : decode cX9_about 145 = .ok (.ireturn, 1) := by decide +kernel
theorem dX9_about_146 : decode cX9_about 146 = .ok (.aload_n 0, 1) := by decide +kernel
theorem dX9_about_147 : decode cX9_about 147 = .ok (.getfield 43, 3) := by decide +kernel
theorem dX9_about_150 : decode cX9_about 150 = .ok (.invokevirtual 76, 3) := by decide +kernel
theorem dX9_about_153 : decode cX9_about 153 = .ok (.ireturn, 1) := by decide +kernel
theorem dX9_about_154 : decode cX9_about 154 = .ok (.bipush (-2), 2) := by decide +kernel
theorem dX9_about_156 : decode cX9_about 156 = .ok (.ireturn, 1) := by decide +kernel
theorem dX9_person_0 : decode cX9_person 0 = .ok (.aload_n 0, 1) := by decide +kernel
theorem dX9_person_1 : decode cX9_person 1 = .ok (.getfield 10, 3) := by decide +kernel
theorem dX9_person_4 : decode cX9_person 4 = .ok (.iload_n 1, 1) := by decide +kernel
theorem dX9_person_5 : decode cX9_person 5 = .ok (.invokevirtual 117, 3) := by decide +kernel
theorem dX9_person_8 : decode cX9_person 8 = .ok (.ifCond .ne 5, 3) := by decide +kernel
theorem dX9_person_11 : decode cX9_person 11 = .ok (.iconst (-1), 1) := by decide +kernel
theorem dX9_person_12 : decode cX9_person 12 = .ok (.ireturn, 1) := by decide +kernel
theorem dX9_person_13 : decode cX9_person 13 = .ok (.iload_n 2, 1) := by decide +kernel
theorem dX9_person_14 : decode cX9_person 14 = .ok (.tableswitch 99 0 6 #[42, 51, 60, 69, 78, 87, 93], 42) := by decide +kernel
theorem dX9_person_56 : decode cX9_person 56 = .ok (.aload_n 0, 1) := by decide +kernel
theorem dX9_person_57 : decode cX9_person 57 = .ok (.getfield 10, 3) := by decide +kernel
theorem dX9_person_60 : decode cX9_person 60 = .ok (.iload_n 1, 1) := by decide +kernel
theorem dX9_person_61 : decode cX9_person 61 = .ok (.invokevirtual 120, 3) := by decide +kernel
theorem dX9_person_64 : decode cX9_person 64 = .ok (.ireturn, 1) := by decide +kernel
theorem dX9_person_65 : decode cX9_person 65 = .ok (.aload_n 0, 1) := by decide +kernel
theorem dX9_person_66 : decode cX9_person 66 = .ok (.getfield 10, 3) := by decide +kernel
theorem dX9_person_69 : decode cX9_person 69 = .ok (.iload_n 1, 1) := by decide +kernel
theorem dX9_person_70 : decode cX9_person 70 = .ok (.invokevirtual 124, 3) := by decide +kernel
theorem dX9_person_73 : decode cX9_person 73 = .ok (.ireturn, 1) := by decide +kernel
theorem dX9_person_74 : decode cX9_person 74 = .ok (.aload_n 0, 1) := by decide +kernel
theorem dX9_person_75 : decode cX9_person 75 = .ok (.getfield 10, 3) := by decide +kernel
theorem dX9_person_78 : decode cX9_person 78 = .ok (.iload_n 1, 1) := by decide +kernel
theorem dX9_person_79 : decode cX9_person 79 = .ok (.invokevirtual 127, 3) := by decide +kernel
theorem dX9_person_82 : decode cX9_person 82 = .ok (.ireturn, 1) := by decide +kernel
theorem dX9_person_83 : decode cX9_person 83 = .ok (.aload_n 0, 1) := by decide +kernel
theorem dX9_person_84 : decode cX9_person 84 = .ok (.getfield 10, 3) := by decide +kernel
theorem dX9_person_87 : decode cX9_person 87 = .ok (.iload_n 1, 1) := by decide +kernel
theorem dX9_person_88 : decode cX9_person 88 = .ok (.invokevirtual 130, 3) := by decide +kernel
theorem dX9_person_91 : decode cX9_person 91 = .ok (.ireturn, 1) := by decide +kernel
theorem dX9_person_92 : decode cX9_person 92 = .ok (.aload_n 0, 1) := by decide +kernel
theorem dX9_person_93 : decode cX9_person 93 = .ok (.getfield 10, 3) := by decide +kernel
theorem dX9_person_96 : decode cX9_person 96 = .ok (.iload_n 1, 1) := by decide +kernel
theorem dX9_person_97 : decode cX9_person 97 = .ok (.invokevirtual 133, 3) := by decide +kernel
theorem dX9_person_100 : decode cX9_person 100 = .ok (.ireturn, 1) := by decide +kernel
theorem dX9_person_101 : decode cX9_person 101 = .ok (.aload_n 0, 1) := by decide +kernel
theorem dX9_person_102 : decode cX9_person 102 = .ok (.iload_n 1, 1) := by decide +kernel
theorem dX9_person_103 : decode cX9_person 103 = .ok (.invokevirtual 136, 3) := by decide +kernel
theorem dX9_person_106 : decode cX9_person 106 = .ok (.ireturn, 1) := by decide +kernel
theorem dX9_person_107 : decode cX9_person 107 = .ok (.aload_n 0, 1) := by decide +kernel
theorem dX9_person_108 : decode cX9_person 108 = .ok (.iload_n 1, 1) := by decide +kernel
theorem dX9_person_109 : decode cX9_person 109 = .ok (.invokevirtual 139, 3) := by decide +kernel
theorem dX9_person_112 : decode cX9_person 112 = .ok (.ireturn, 1) := by decide +kernel
theorem dX9_person_113 : decode cX9_person 113 = .ok (.bipush (-2), 2) := by decide +kernel
theorem dX9_person_115 : decode cX9_person 115 = .ok (.ireturn, 1) := by decide +kernel
theorem dX9_plan_0 : decode cX9_plan 0 = .ok (.aload_n 0, 1) := by decide +kernel
theorem dX9_plan_1 : decode cX9_plan 1 = .ok (.getfield 10, 3) := by decide +kernel
theorem dX9_plan_4 : decode cX9_plan 4 = .ok (.iload_n 1, 1) := by decide +kernel
theorem dX9_plan_5 : decode cX9_plan 5 = .ok (.invokevirtual 142, 3) := by decide +kernel
theorem dX9_plan_8 : decode cX9_plan 8 = .ok (.ifCond .eq 14, 3) := by decide +kernel
theorem dX9_plan_11 : decode cX9_plan 11 = .ok (.aload_n 0, 1) := by decide +kernel
theorem dX9_plan_12 : decode cX9_plan 12 = .ok (.getfield 10, 3) := by decide +kernel
theorem dX9_plan_15 : decode cX9_plan 15 = .ok (.iload_n 1, 1) := by decide +kernel
theorem dX9_plan_16 : decode cX9_plan 16 = .ok (.invokevirtual 145, 3) := by decide +kernel
theorem dX9_plan_19 : decode cX9_plan 19 = .ok (.goto 4, 3) := by decide +kernel
theorem dX9_plan_22 : decode cX9_plan 22 = .ok (.iconst (-1), 1) := by decide +kernel
theorem dX9_plan_23 : decode cX9_plan 23 = .ok (.ireturn, 1) := by decide +kernel
theorem dX9_knows_0 : decode cX9_knows 0 = .ok (.aload_n 0, 1) := by decide +kernel
theorem dX9_knows_1 : decode cX9_knows 1 = .ok (.getfield 10, 3) := by decide +kernel
theorem dX9_knows_4 : decode cX9_knows 4 = .ok (.iload_n 1, 1) := by decide +kernel
theorem dX9_knows_5 : decode cX9_knows 5 = .ok (.invokevirtual 117, 3) := by decide +kernel
theorem dX9_knows_8 : decode cX9_knows 8 = .ok (.ifCond .eq 14, 3) := by decide +kernel
theorem dX9_knows_11 : decode cX9_knows 11 = .ok (.aload_n 0, 1) := by decide +kernel
theorem dX9_knows_12 : decode cX9_knows 12 = .ok (.getfield 10, 3) := by decide +kernel
theorem dX9_knows_15 : decode cX9_knows 15 = .ok (.iload_n 2, 1) := by decide +kernel
theorem dX9_knows_16 : decode cX9_knows 16 = .ok (.invokevirtual 148, 3) := by decide +kernel
theorem dX9_knows_19 : decode cX9_knows 19 = .ok (.ifCond .ne 5, 3) := by decide +kernel
theorem dX9_knows_22 : decode cX9_knows 22 = .ok (.iconst (-1), 1) := by decide +kernel
theorem dX9_knows_23 : decode cX9_knows 23 = .ok (.ireturn, 1) := by decide +kernel
theorem dX9_knows_24 : decode cX9_knows 24 = .ok (.aload_n 0, 1) := by decide +kernel
theorem dX9_knows_25 : decode cX9_knows 25 = .ok (.getfield 22, 3) := by decide +kernel
theorem dX9_knows_28 : decode cX9_knows 28 = .ok (.aload_n 0, 1) := by decide +kernel
theorem dX9_knows_29 : decode cX9_knows 29 = .ok (.getfield 10, 3) := by decide +kernel
theorem dX9_knows_32 : decode cX9_knows 32 = .ok (.invokevirtual 94, 3) := by decide +kernel
theorem dX9_knows_35 : decode cX9_knows 35 = .ok (.pop, 1) := by decide +kernel
theorem dX9_knows_36 : decode cX9_knows 36 = .ok (.aload_n 0, 1) := by decide +kernel
theorem dX9_knows_37 : decode cX9_knows 37 = .ok (.getfield 22, 3) := by decide +kernel
theorem dX9_knows_40 : decode cX9_knows 40 = .ok (.iload_n 1, 1) := by decide +kernel
theorem dX9_knows_41 : decode cX9_knows 41 = .ok (.iload_n 2, 1) := by decide +kernel
theorem dX9_knows_42 : decode cX9_knows 42 = .ok (.invokevirtual 151, 3) := by decide +kernel
theorem dX9_knows_45 : decode cX9_knows 45 = .ok (.ireturn, 1) := by decide +kernel
theorem dX9_last_0 : decode cX9_last 0 = .ok (.aload_n 0, 1) := by decide +kernel
theorem dX9_last_1 : decode cX9_last 1 = .ok (.getfield 10, 3) := by decide +kernel
theorem dX9_last_4 : decode cX9_last 4 = .ok (.iload_n 1, 1) := by decide +kernel
theorem dX9_last_5 : decode cX9_last 5 = .ok (.invokevirtual 148, 3) := by decide +kernel
theorem dX9_last_8 : decode cX9_last 8 = .ok (.ifCond .ne 5, 3) := by decide +kernel
theorem dX9_last_11 : decode cX9_last 11 = .ok (.iconst (-1), 1) := by decide +kernel
theorem dX9_last_12 : decode cX9_last 12 = .ok (.ireturn, 1) := by decide +kernel
theorem dX9_last_13 : decode cX9_last 13 = .ok (.aload_n 0, 1) := by decide +kernel
theorem dX9_last_14 : decode cX9_last 14 = .ok (.getfield 22, 3) := by decide +kernel
theorem dX9_last_17 : decode cX9_last 17 = .ok (.aload_n 0, 1) := by decide +kernel
theorem dX9_last_18 : decode cX9_last 18 = .ok (.getfield 10, 3) := by decide +kernel
theorem dX9_last_21 : decode cX9_last 21 = .ok (.invokevirtual 94, 3) := by decide +kernel
theorem dX9_last_24 : decode cX9_last 24 = .ok (.pop, 1) := by decide +kernel
theorem dX9_last_25 : decode cX9_last 25 = .ok (.iconst 0, 1) := by decide +kernel
theorem dX9_last_26 : decode cX9_last 26 = .ok (.istore_n 2, 1) := by decide +kernel
theorem dX9_last_27 : decode cX9_last 27 = .ok (.iconst 0, 1) := by decide +kernel
theorem dX9_last_28 : decode cX9_last 28 = .ok (.istore_n 3, 1) := by decide +kernel
theorem dX9_last_29 : decode cX9_last 29 = .ok (.iload_n 3, 1) := by decide +kernel
theorem dX9_last_30 : decode cX9_last 30 = .ok (.aload_n 0, 1) := by decide +kernel
theorem dX9_last_31 : decode cX9_last 31 = .ok (.getfield 10, 3) := by decide +kernel
theorem dX9_last_34 : decode cX9_last 34 = .ok (.invokevirtual 98, 3) := by decide +kernel
theorem dX9_last_37 : decode cX9_last 37 = .ok (.if_icmp .ge 23, 3) := by decide +kernel
theorem dX9_last_40 : decode cX9_last 40 = .ok (.iload_n 2, 1) := by decide +kernel
theorem dX9_last_41 : decode cX9_last 41 = .ok (.aload_n 0, 1) := by decide +kernel
theorem dX9_last_42 : decode cX9_last 42 = .ok (.getfield 22, 3) := by decide +kernel
theorem dX9_last_45 : decode cX9_last 45 = .ok (.iload_n 3, 1) := by decide +kernel
theorem dX9_last_46 : decode cX9_last 46 = .ok (.iload_n 1, 1) := by decide +kernel
theorem dX9_last_47 : decode cX9_last 47 = .ok (.invokevirtual 151, 3) := by decide +kernel
theorem dX9_last_50 : decode cX9_last 50 = .ok (.invokestatic 155, 3) := by decide +kernel
theorem dX9_last_53 : decode cX9_last 53 = .ok (.istore_n 2, 1) := by decide +kernel
theorem dX9_last_54 : decode cX9_last 54 = .ok (.iinc 3 1, 3) := by decide +kernel
theorem dX9_last_57 : decode cX9_last 57 = .ok (.goto (-28), 3) := by decide +kernel
theorem dX9_last_60 : decode cX9_last 60 = .ok (.iload_n 2, 1) := by decide +kernel
theorem dX9_last_61 : decode cX9_last 61 = .ok (.ireturn, 1) := by decide +kernel
theorem dX9_move_0 : decode cX9_move 0 = .ok (.aload_n 0, 1) := by decide +kernel
theorem dX9_move_1 : decode cX9_move 1 = .ok (.getfield 10, 3) := by decide +kernel
theorem dX9_move_4 : decode cX9_move 4 = .ok (.iload_n 1, 1) := by decide +kernel
theorem dX9_move_5 : decode cX9_move 5 = .ok (.iload_n 2, 1) := by decide +kernel
theorem dX9_move_6 : decode cX9_move 6 = .ok (.invokestatic 160, 3) := by decide +kernel
theorem dX9_move_9 : decode cX9_move 9 = .ok (.istore_n 3, 1) := by decide +kernel
theorem dX9_move_10 : decode cX9_move 10 = .ok (.iload_n 3, 1) := by decide +kernel
theorem dX9_move_11 : decode cX9_move 11 = .ok (.ifCond .eq 5, 3) := by decide +kernel
theorem dX9_move_14 : decode cX9_move 14 = .ok (.iload_n 3, 1) := by decide +kernel
theorem dX9_move_15 : decode cX9_move 15 = .ok (.ireturn, 1) := by decide +kernel
theorem dX9_move_16 : decode cX9_move 16 = .ok (.aload_n 0, 1) := by decide +kernel
theorem dX9_move_17 : decode cX9_move 17 = .ok (.getfield 50, 3) := by decide +kernel
theorem dX9_move_20 : decode cX9_move 20 = .ok (.aload_n 0, 1) := by decide +kernel
theorem dX9_move_21 : decode cX9_move 21 = .ok (.getfield 10, 3) := by decide +kernel
theorem dX9_move_24 : decode cX9_move 24 = .ok (.invokevirtual 164, 3) := by decide +kernel
theorem dX9_move_27 : decode cX9_move 27 = .ok (.aload_n 0, 1) := by decide +kernel
theorem dX9_move_28 : decode cX9_move 28 = .ok (.getfield 10, 3) := by decide +kernel
theorem dX9_move_31 : decode cX9_move 31 = .ok (.iload_n 1, 1) := by decide +kernel
theorem dX9_move_32 : decode cX9_move 32 = .ok (.iload_n 2, 1) := by decide +kernel
theorem dX9_move_33 : decode cX9_move 33 = .ok (.invokevirtual 167, 3) := by decide +kernel
theorem dX9_move_36 : decode cX9_move 36 = .ok (.aload_n 0, 1) := by decide +kernel
theorem dX9_move_37 : decode cX9_move 37 = .ok (.getfield 22, 3) := by decide +kernel
theorem dX9_move_40 : decode cX9_move 40 = .ok (.aload_n 0, 1) := by decide +kernel
theorem dX9_move_41 : decode cX9_move 41 = .ok (.getfield 10, 3) := by decide +kernel
theorem dX9_move_44 : decode cX9_move 44 = .ok (.invokevirtual 94, 3) := by decide +kernel
theorem dX9_move_47 : decode cX9_move 47 = .ok (.ireturn, 1) := by decide +kernel
theorem dX9_change_0 : decode cX9_change 0 = .ok (.aload_n 0, 1) := by decide +kernel
theorem dX9_change_1 : decode cX9_change 1 = .ok (.getfield 10, 3) := by decide +kernel
theorem dX9_change_4 : decode cX9_change 4 = .ok (.iload_n 1, 1) := by decide +kernel
theorem dX9_change_5 : decode cX9_change 5 = .ok (.invokestatic 171, 3) := by decide +kernel
theorem dX9_change_8 : decode cX9_change 8 = .ok (.istore_n 2, 1) := by decide +kernel
theorem dX9_change_9 : decode cX9_change 9 = .ok (.iload_n 2, 1) := by decide +kernel
theorem dX9_change_10 : decode cX9_change 10 = .ok (.ifCond .eq 5, 3) := by decide +kernel
theorem dX9_change_13 : decode cX9_change 13 = .ok (.iload_n 2, 1) := by decide +kernel
theorem dX9_change_14 : decode cX9_change 14 = .ok (.ireturn, 1) := by decide +kernel
theorem dX9_change_15 : decode cX9_change 15 = .ok (.aload_n 0, 1) := by decide +kernel
theorem dX9_change_16 : decode cX9_change 16 = .ok (.getfield 50, 3) := by decide +kernel
theorem dX9_change_19 : decode cX9_change 19 = .ok (.aload_n 0, 1) := by decide +kernel
theorem dX9_change_20 : decode cX9_change 20 = .ok (.getfield 10, 3) := by decide +kernel
theorem dX9_change_23 : decode cX9_change 23 = .ok (.invokevirtual 164, 3) := by decide +kernel
theorem dX9_change_26 : decode cX9_change 26 = .ok (.aload_n 0, 1) := by decide +kernel
theorem dX9_change_27 : decode cX9_change 27 = .ok (.getfield 10, 3) := by decide +kernel
theorem dX9_change_30 : decode cX9_change 30 = .ok (.iload_n 1, 1) := by decide +kernel
theorem dX9_change_31 : decode cX9_change 31 = .ok (.invokevirtual 175, 3) := by decide +kernel
theorem dX9_change_34 : decode cX9_change 34 = .ok (.aload_n 0, 1) := by decide +kernel
theorem dX9_change_35 : decode cX9_change 35 = .ok (.getfield 22, 3) := by decide +kernel
theorem dX9_change_38 : decode cX9_change 38 = .ok (.aload_n 0, 1) := by decide +kernel
theorem dX9_change_39 : decode cX9_change 39 = .ok (.getfield 10, 3) := by decide +kernel
theorem dX9_change_42 : decode cX9_change 42 = .ok (.invokevirtual 94, 3) := by decide +kernel
theorem dX9_change_45 : decode cX9_change 45 = .ok (.ireturn, 1) := by decide +kernel
theorem dX9_quicken_0 : decode cX9_quicken 0 = .ok (.aload_n 0, 1) := by decide +kernel
theorem dX9_quicken_1 : decode cX9_quicken 1 = .ok (.getfield 50, 3) := by decide +kernel
theorem dX9_quicken_4 : decode cX9_quicken 4 = .ok (.aload_n 0, 1) := by decide +kernel
theorem dX9_quicken_5 : decode cX9_quicken 5 = .ok (.getfield 10, 3) := by decide +kernel
theorem dX9_quicken_8 : decode cX9_quicken 8 = .ok (.invokevirtual 164, 3) := by decide +kernel
theorem dX9_quicken_11 : decode cX9_quicken 11 = .ok (.aload_n 0, 1) := by decide +kernel
theorem dX9_quicken_12 : decode cX9_quicken 12 = .ok (.getfield 29, 3) := by decide +kernel
theorem dX9_quicken_15 : decode cX9_quicken 15 = .ok (.aload_n 0, 1) := by decide +kernel
theorem dX9_quicken_16 : decode cX9_quicken 16 = .ok (.getfield 10, 3) := by decide +kernel
theorem dX9_quicken_19 : decode cX9_quicken 19 = .ok (.invokevirtual 179, 3) := by decide +kernel
theorem dX9_quicken_22 : decode cX9_quicken 22 = .ok (.aload_n 0, 1) := by decide +kernel
theorem dX9_quicken_23 : decode cX9_quicken 23 = .ok (.getfield 22, 3) := by decide +kernel
theorem dX9_quicken_26 : decode cX9_quicken 26 = .ok (.aload_n 0, 1) := by decide +kernel
theorem dX9_quicken_27 : decode cX9_quicken 27 = .ok (.getfield 10, 3) := by decide +kernel
theorem dX9_quicken_30 : decode cX9_quicken 30 = .ok (.invokevirtual 94, 3) := by decide +kernel
theorem dX9_quicken_33 : decode cX9_quicken 33 = .ok (.ireturn, 1) := by decide +kernel
theorem dX9_set_0 : decode cX9_set 0 = .ok (.aload_n 0, 1) := by decide +kernel
theorem dX9_set_1 : decode cX9_set 1 = .ok (.getfield 10, 3) := by decide +kernel
theorem dX9_set_4 : decode cX9_set 4 = .ok (.iload_n 1, 1) := by decide +kernel
theorem dX9_set_5 : decode cX9_set 5 = .ok (.iload_n 2, 1) := by decide +kernel
theorem dX9_set_6 : decode cX9_set 6 = .ok (.iload_n 3, 1) := by decide +kernel
theorem dX9_set_7 : decode cX9_set 7 = .ok (.invokestatic 182, 3) := by decide +kernel
theorem dX9_set_10 : decode cX9_set 10 = .ok (.istore 4, 2) := by decide +kernel
theorem dX9_set_12 : decode cX9_set 12 = .ok (.iload 4, 2) := by decide +kernel
theorem dX9_set_14 : decode cX9_set 14 = .ok (.ifCond .eq 6, 3) := by decide +kernel
theorem dX9_set_17 : decode cX9_set 17 = .ok (.iload 4, 2) := by decide +kernel
theorem dX9_set_19 : decode cX9_set 19 = .ok (.ireturn, 1) := by decide +kernel
theorem dX9_set_20 : decode cX9_set 20 = .ok (.aload_n 0, 1) := by decide +kernel
theorem dX9_set_21 : decode cX9_set 21 = .ok (.getfield 50, 3) := by decide +kernel
theorem dX9_set_24 : decode cX9_set 24 = .ok (.aload_n 0, 1) := by decide +kernel
theorem dX9_set_25 : decode cX9_set 25 = .ok (.getfield 10, 3) := by decide +kernel
theorem dX9_set_28 : decode cX9_set 28 = .ok (.invokevirtual 164, 3) := by decide +kernel
theorem dX9_set_31 : decode cX9_set 31 = .ok (.aload_n 0, 1) := by decide +kernel
theorem dX9_set_32 : decode cX9_set 32 = .ok (.getfield 10, 3) := by decide +kernel
theorem dX9_set_35 : decode cX9_set 35 = .ok (.iload_n 1, 1) := by decide +kernel
theorem dX9_set_36 : decode cX9_set 36 = .ok (.iload_n 2, 1) := by decide +kernel
theorem dX9_set_37 : decode cX9_set 37 = .ok (.iload_n 3, 1) := by decide +kernel
theorem dX9_set_38 : decode cX9_set 38 = .ok (.invokevirtual 186, 3) := by decide +kernel
theorem dX9_set_41 : decode cX9_set 41 = .ok (.ireturn, 1) := by decide +kernel
theorem dX9_undo_0 : decode cX9_undo 0 = .ok (.aload_n 0, 1) := by decide +kernel
theorem dX9_undo_1 : decode cX9_undo 1 = .ok (.getfield 50, 3) := by decide +kernel
theorem dX9_undo_4 : decode cX9_undo 4 = .ok (.aload_n 0, 1) := by decide +kernel
theorem dX9_undo_5 : decode cX9_undo 5 = .ok (.getfield 10, 3) := by decide +kernel
theorem dX9_undo_8 : decode cX9_undo 8 = .ok (.invokevirtual 190, 3) := by decide +kernel
theorem dX9_undo_11 : decode cX9_undo 11 = .ok (.ifCond .eq 13, 3) := by decide +kernel
theorem dX9_undo_14 : decode cX9_undo 14 = .ok (.aload_n 0, 1) := by decide +kernel
theorem dX9_undo_15 : decode cX9_undo 15 = .ok (.getfield 50, 3) := by decide +kernel
theorem dX9_undo_18 : decode cX9_undo 18 = .ok (.invokevirtual 113, 3) := by decide +kernel
theorem dX9_undo_21 : decode cX9_undo 21 = .ok (.goto 5, 3) := by decide +kernel
theorem dX9_undo_24 : decode cX9_undo 24 = .ok (.bipush (-3), 2) := by decide +kernel
theorem dX9_undo_26 : decode cX9_undo 26 = .ok (.ireturn, 1) := by decide +kernel
theorem dX9_number_0 : decode cX9_number 0 = .ok (.aload_n 0, 1) := by decide +kernel
theorem dX9_number_1 : decode cX9_number 1 = .ok (.getfield 10, 3) := by decide +kernel
theorem dX9_number_4 : decode cX9_number 4 = .ok (.iload_n 1, 1) := by decide +kernel
theorem dX9_number_5 : decode cX9_number 5 = .ok (.invokevirtual 117, 3) := by decide +kernel
theorem dX9_number_8 : decode cX9_number 8 = .ok (.ifCond .ne 7, 3) := by decide +kernel
theorem dX9_number_11 : decode cX9_number 11 = .ok (.ldc2_w 194, 3) := by decide +kernel
theorem dX9_number_14 : decode cX9_number 14 = .ok (.lreturn, 1) := by decide +kernel
theorem dX9_number_15 : decode cX9_number 15 = .ok (.iload_n 2, 1) := by decide +kernel
theorem dX9_number_16 : decode cX9_number 16 = .ok (.ifCond .lt 9, 3) := by decide +kernel
theorem dX9_number_19 : decode cX9_number 19 = .ok (.iload_n 2, 1) := by decide +kernel
theorem dX9_number_20 : decode cX9_number 20 = .ok (.bipush 60, 2) := by decide +kernel
theorem dX9_number_22 : decode cX9_number 22 = .ok (.if_icmp .le 7, 3) := by decide +kernel
theorem dX9_number_25 : decode cX9_number 25 = .ok (.ldc2_w 196, 3) := by decide +kernel
theorem dX9_number_28 : decode cX9_number 28 = .ok (.lreturn, 1) := by decide +kernel
theorem dX9_number_29 : decode cX9_number 29 = .ok (.aload_n 0, 1) := by decide +kernel
theorem dX9_number_30 : decode cX9_number 30 = .ok (.getfield 36, 3) := by decide +kernel
theorem dX9_number_33 : decode cX9_number 33 = .ok (.aload_n 0, 1) := by decide +kernel
theorem dX9_number_34 : decode cX9_number 34 = .ok (.getfield 10, 3) := by decide +kernel
theorem dX9_number_37 : decode cX9_number 37 = .ok (.iload_n 1, 1) := by decide +kernel
theorem dX9_number_38 : decode cX9_number 38 = .ok (.invokevirtual 120, 3) := by decide +kernel
theorem dX9_number_41 : decode cX9_number 41 = .ok (.aload_n 0, 1) := by decide +kernel
theorem dX9_number_42 : decode cX9_number 42 = .ok (.getfield 10, 3) := by decide +kernel
theorem dX9_number_45 : decode cX9_number 45 = .ok (.iload_n 1, 1) := by decide +kernel
theorem dX9_number_46 : decode cX9_number 46 = .ok (.invokevirtual 124, 3) := by decide +kernel
theorem dX9_number_49 : decode cX9_number 49 = .ok (.invokevirtual 198, 3) := by decide +kernel
theorem dX9_number_52 : decode cX9_number 52 = .ok (.aload_n 0, 1) := by decide +kernel
theorem dX9_number_53 : decode cX9_number 53 = .ok (.getfield 36, 3) := by decide +kernel
theorem dX9_number_56 : decode cX9_number 56 = .ok (.iload_n 2, 1) := by decide +kernel
theorem dX9_number_57 : decode cX9_number 57 = .ok (.invokevirtual 200, 3) := by decide +kernel
theorem dX9_number_60 : decode cX9_number 60 = .ok (.lreturn, 1) := by decide +kernel
theorem dX9_soon_0 : decode cX9_soon 0 = .ok (.aload_n 0, 1) := by decide +kernel
theorem dX9_soon_1 : decode cX9_soon 1 = .ok (.getfield 10, 3) := by decide +kernel
theorem dX9_soon_4 : decode cX9_soon 4 = .ok (.iload_n 1, 1) := by decide +kernel
theorem dX9_soon_5 : decode cX9_soon 5 = .ok (.invokevirtual 117, 3) := by decide +kernel
theorem dX9_soon_8 : decode cX9_soon 8 = .ok (.ifCond .ne 5, 3) := by decide +kernel
theorem dX9_soon_11 : decode cX9_soon 11 = .ok (.iconst (-1), 1) := by decide +kernel
theorem dX9_soon_12 : decode cX9_soon 12 = .ok (.ireturn, 1) := by decide +kernel
theorem dX9_soon_13 : decode cX9_soon 13 = .ok (.iload_n 2, 1) := by decide +kernel
theorem dX9_soon_14 : decode cX9_soon 14 = .ok (.iconst 1, 1) := by decide +kernel
theorem dX9_soon_15 : decode cX9_soon 15 = .ok (.if_icmp .lt 9, 3) := by decide +kernel
theorem dX9_soon_18 : decode cX9_soon 18 = .ok (.iload_n 2, 1) := by decide +kernel
theorem dX9_soon_19 : decode cX9_soon 19 = .ok (.ldc 204, 2) := by decide +kernel
theorem dX9_soon_21 : decode cX9_soon 21 = .ok (.if_icmp .le 6, 3) := by decide +kernel
theorem dX9_soon_24 : decode cX9_soon 24 = .ok (.bipush (-2), 2) := by decide +kernel
theorem dX9_soon_26 : decode cX9_soon 26 = .ok (.ireturn, 1) := by decide +kernel
theorem dX9_soon_27 : decode cX9_soon 27 = .ok (.aload_n 0, 1) := by decide +kernel
theorem dX9_soon_28 : decode cX9_soon 28 = .ok (.getfield 36, 3) := by decide +kernel
theorem dX9_soon_31 : decode cX9_soon 31 = .ok (.aload_n 0, 1) := by decide +kernel
theorem dX9_soon_32 : decode cX9_soon 32 = .ok (.getfield 10, 3) := by decide +kernel
theorem dX9_soon_35 : decode cX9_soon 35 = .ok (.iload_n 1, 1) := by decide +kernel
theorem dX9_soon_36 : decode cX9_soon 36 = .ok (.invokevirtual 120, 3) := by decide +kernel
theorem dX9_soon_39 : decode cX9_soon 39 = .ok (.aload_n 0, 1) := by decide +kernel
theorem dX9_soon_40 : decode cX9_soon 40 = .ok (.getfield 10, 3) := by decide +kernel
theorem dX9_soon_43 : decode cX9_soon 43 = .ok (.iload_n 1, 1) := by decide +kernel
theorem dX9_soon_44 : decode cX9_soon 44 = .ok (.invokevirtual 124, 3) := by decide +kernel
theorem dX9_soon_47 : decode cX9_soon 47 = .ok (.invokevirtual 198, 3) := by decide +kernel
theorem dX9_soon_50 : decode cX9_soon 50 = .ok (.iconst 0, 1) := by decide +kernel
theorem dX9_soon_51 : decode cX9_soon 51 = .ok (.istore_n 3, 1) := by decide +kernel
theorem dX9_soon_52 : decode cX9_soon 52 = .ok (.iload_n 3, 1) := by decide +kernel
theorem dX9_soon_53 : decode cX9_soon 53 = .ok (.bipush 60, 2) := by decide +kernel
theorem dX9_soon_55 : decode cX9_soon 55 = .ok (.if_icmp .gt 25, 3) := by decide +kernel
theorem dX9_soon_58 : decode cX9_soon 58 = .ok (.aload_n 0, 1) := by decide +kernel
theorem dX9_soon_59 : decode cX9_soon 59 = .ok (.getfield 36, 3) := by decide +kernel
theorem dX9_soon_62 : decode cX9_soon 62 = .ok (.iload_n 3, 1) := by decide +kernel
theorem dX9_soon_63 : decode cX9_soon 63 = .ok (.invokevirtual 200, 3) := by decide +kernel
theorem dX9_soon_66 : decode cX9_soon 66 = .ok (.iload_n 2, 1) := by decide +kernel
theorem dX9_soon_67 : decode cX9_soon 67 = .ok (.i2l, 1) := by decide +kernel
theorem dX9_soon_68 : decode cX9_soon 68 = .ok (.lcmp, 1) := by decide +kernel
theorem dX9_soon_69 : decode cX9_soon 69 = .ok (.ifCond .lt 5, 3) := by decide +kernel
theorem dX9_soon_72 : decode cX9_soon 72 = .ok (.iload_n 3, 1) := by decide +kernel
theorem dX9_soon_73 : decode cX9_soon 73 = .ok (.ireturn, 1) := by decide +kernel
theorem dX9_soon_74 : decode cX9_soon 74 = .ok (.iinc 3 1, 3) := by decide +kernel
theorem dX9_soon_77 : decode cX9_soon 77 = .ok (.goto (-25), 3) := by decide +kernel
theorem dX9_soon_80 : decode cX9_soon 80 = .ok (.bipush (-9), 2) := by decide +kernel
theorem dX9_soon_82 : decode cX9_soon 82 = .ok (.ireturn, 1) := by decide +kernel
theorem dX9_knowers_0 : decode cX9_knowers 0 = .ok (.aload_n 0, 1) := by decide +kernel
theorem dX9_knowers_1 : decode cX9_knowers 1 = .ok (.getfield 10, 3) := by decide +kernel
theorem dX9_knowers_4 : decode cX9_knowers 4 = .ok (.iload_n 1, 1) := by decide +kernel
theorem dX9_knowers_5 : decode cX9_knowers 5 = .ok (.invokevirtual 148, 3) := by decide +kernel
theorem dX9_knowers_8 : decode cX9_knowers 8 = .ok (.ifCond .ne 5, 3) := by decide +kernel
theorem dX9_knowers_11 : decode cX9_knowers 11 = .ok (.iconst (-1), 1) := by decide +kernel
theorem dX9_knowers_12 : decode cX9_knowers 12 = .ok (.ireturn, 1) := by decide +kernel
theorem dX9_knowers_13 : decode cX9_knowers 13 = .ok (.iload_n 2, 1) := by decide +kernel
theorem dX9_knowers_14 : decode cX9_knowers 14 = .ok (.ifCond .lt 10, 3) := by decide +kernel
theorem dX9_knowers_17 : decode cX9_knowers 17 = .ok (.iload_n 2, 1) := by decide +kernel
theorem dX9_knowers_18 : decode cX9_knowers 18 = .ok (.sipush 999, 3) := by decide +kernel
theorem dX9_knowers_21 : decode cX9_knowers 21 = .ok (.if_icmp .le 6, 3) := by decide +kernel
theorem dX9_knowers_24 : decode cX9_knowers 24 = .ok (.bipush (-2), 2) := by decide +kernel
theorem dX9_knowers_26 : decode cX9_knowers 26 = .ok (.ireturn, 1) := by decide +kernel
theorem dX9_knowers_27 : decode cX9_knowers 27 = .ok (.aload_n 0, 1) := by decide +kernel
theorem dX9_knowers_28 : decode cX9_knowers 28 = .ok (.getfield 22, 3) := by decide +kernel
theorem dX9_knowers_31 : decode cX9_knowers 31 = .ok (.aload_n 0, 1) := by decide +kernel
theorem dX9_knowers_32 : decode cX9_knowers 32 = .ok (.getfield 10, 3) := by decide +kernel
theorem dX9_knowers_35 : decode cX9_knowers 35 = .ok (.invokevirtual 94, 3) := by decide +kernel
theorem dX9_knowers_38 : decode cX9_knowers 38 = .ok (.pop, 1) := by decide +kernel
theorem dX9_knowers_39 : decode cX9_knowers 39 = .ok (.iconst 0, 1) := by decide +kernel
theorem dX9_knowers_40 : decode cX9_knowers 40 = .ok (.istore_n 3, 1) := by decide +kernel
theorem dX9_knowers_41 : decode cX9_knowers 41 = .ok (.iconst 0, 1) := by decide +kernel
theorem dX9_knowers_42 : decode cX9_knowers 42 = .ok (.istore 4, 2) := by decide +kernel
theorem dX9_knowers_44 : decode cX9_knowers 44 = .ok (.iload 4, 2) := by decide +kernel
theorem dX9_knowers_46 : decode cX9_knowers 46 = .ok (.aload_n 0, 1) := by decide +kernel
theorem dX9_knowers_47 : decode cX9_knowers 47 = .ok (.getfield 10, 3) := by decide +kernel
theorem dX9_knowers_50 : decode cX9_knowers 50 = .ok (.invokevirtual 98, 3) := by decide +kernel
theorem dX9_knowers_53 : decode cX9_knowers 53 = .ok (.if_icmp .ge 30, 3) := by decide +kernel
theorem dX9_knowers_56 : decode cX9_knowers 56 = .ok (.aload_n 0, 1) := by decide +kernel
theorem dX9_knowers_57 : decode cX9_knowers 57 = .ok (.getfield 22, 3) := by decide +kernel
theorem dX9_knowers_60 : decode cX9_knowers 60 = .ok (.iload 4, 2) := by decide +kernel
theorem dX9_knowers_62 : decode cX9_knowers 62 = .ok (.iload_n 1, 1) := by decide +kernel
theorem dX9_knowers_63 : decode cX9_knowers 63 = .ok (.invokevirtual 151, 3) := by decide +kernel
theorem dX9_knowers_66 : decode cX9_knowers 66 = .ok (.iload_n 2, 1) := by decide +kernel
theorem dX9_knowers_67 : decode cX9_knowers 67 = .ok (.if_icmp .gt 10, 3) := by decide +kernel
theorem dX9_knowers_70 : decode cX9_knowers 70 = .ok (.iload_n 3, 1) := by decide +kernel
theorem dX9_knowers_71 : decode cX9_knowers 71 = .ok (.iconst 1, 1) := by decide +kernel
theorem dX9_knowers_72 : decode cX9_knowers 72 = .ok (.iload 4, 2) := by decide +kernel
theorem dX9_knowers_74 : decode cX9_knowers 74 = .ok (.ishl, 1) := by decide +kernel
theorem dX9_knowers_75 : decode cX9_knowers 75 = .ok (.ior, 1) := by decide +kernel
theorem dX9_knowers_76 : decode cX9_knowers 76 = .ok (.istore_n 3, 1) := by decide +kernel
theorem dX9_knowers_77 : decode cX9_knowers 77 = .ok (.iinc 4 1, 3) := by decide +kernel
theorem dX9_knowers_80 : decode cX9_knowers 80 = .ok (.goto (-36), 3) := by decide +kernel
theorem dX9_knowers_83 : decode cX9_knowers 83 = .ok (.iload_n 3, 1) := by decide +kernel
theorem dX9_knowers_84 : decode cX9_knowers 84 = .ok (.ireturn, 1) := by decide +kernel
theorem dX9_judge_0 : decode cX9_judge 0 = .ok (.iload_n 1, 1) := by decide +kernel
theorem dX9_judge_1 : decode cX9_judge 1 = .ok (.iconst 1, 1) := by decide +kernel
theorem dX9_judge_2 : decode cX9_judge 2 = .ok (.if_icmp .lt 23, 3) := by decide +kernel
theorem dX9_judge_5 : decode cX9_judge 5 = .ok (.iload_n 1, 1) := by decide +kernel
theorem dX9_judge_6 : decode cX9_judge 6 = .ok (.iconst 4, 1) := by decide +kernel
theorem dX9_judge_7 : decode cX9_judge 7 = .ok (.if_icmp .gt 18, 3) := by decide +kernel
theorem dX9_judge_10 : decode cX9_judge 10 = .ok (.lload_n 2, 1) := by decide +kernel
theorem dX9_judge_11 : decode cX9_judge 11 = .ok (.lconst 0, 1) := by decide +kernel
theorem dX9_judge_12 : decode cX9_judge 12 = .ok (.lcmp, 1) := by decide +kernel
theorem dX9_judge_13 : decode cX9_judge 13 = .ok (.ifCond .lt 12, 3) := by decide +kernel
theorem dX9_judge_16 : decode cX9_judge 16 = .ok (.aload_n 0, 1) := by decide +kernel
theorem dX9_judge_17 : decode cX9_judge 17 = .ok (.iload_n 1, 1) := by decide +kernel
theorem dX9_judge_18 : decode cX9_judge 18 = .ok (.lload_n 2, 1) := by decide +kernel
theorem dX9_judge_19 : decode cX9_judge 19 = .ok (.invokevirtual 205, 3) := by decide +kernel
theorem dX9_judge_22 : decode cX9_judge 22 = .ok (.ifCond .ne 6, 3) := by decide +kernel
theorem dX9_judge_25 : decode cX9_judge 25 = .ok (.bipush (-2), 2) := by decide +kernel
theorem dX9_judge_27 : decode cX9_judge 27 = .ok (.ireturn, 1) := by decide +kernel
theorem dX9_judge_28 : decode cX9_judge 28 = .ok (.aload_n 0, 1) := by decide +kernel
theorem dX9_judge_29 : decode cX9_judge 29 = .ok (.getfield 16, 3) := by decide +kernel
theorem dX9_judge_32 : decode cX9_judge 32 = .ok (.aload_n 0, 1) := by decide +kernel
theorem dX9_judge_33 : decode cX9_judge 33 = .ok (.getfield 10, 3) := by decide +kernel
theorem dX9_judge_36 : decode cX9_judge 36 = .ok (.invokevirtual 209, 3) := by decide +kernel
theorem dX9_judge_39 : decode cX9_judge 39 = .ok (.iconst 0, 1) := by decide +kernel
theorem dX9_judge_40 : decode cX9_judge 40 = .ok (.istore 4, 2) := by decide +kernel
theorem dX9_judge_42 : decode cX9_judge 42 = .ok (.iload 4, 2) := by decide +kernel
theorem dX9_judge_44 : decode cX9_judge 44 = .ok (.iload_n 1, 1) := by decide +kernel
theorem dX9_judge_45 : decode cX9_judge 45 = .ok (.if_icmp .ge 48, 3) := by decide +kernel
theorem dX9_judge_48 : decode cX9_judge 48 = .ok (.aload_n 0, 1) := by decide +kernel
theorem dX9_judge_49 : decode cX9_judge 49 = .ok (.getfield 68, 3) := by decide +kernel
theorem dX9_judge_52 : decode cX9_judge 52 = .ok (.iload 4, 2) := by decide +kernel
theorem dX9_judge_54 : decode cX9_judge 54 = .ok (.invokestatic 212, 3) := by decide +kernel
theorem dX9_judge_57 : decode cX9_judge 57 = .ok (.istore 5, 2) := by decide +kernel
theorem dX9_judge_59 : decode cX9_judge 59 = .ok (.aload_n 0, 1) := by decide +kernel
theorem dX9_judge_60 : decode cX9_judge 60 = .ok (.iload 5, 2) := by decide +kernel
theorem dX9_judge_62 : decode cX9_judge 62 = .ok (.bipush 100, 2) := by decide +kernel
theorem dX9_judge_64 : decode cX9_judge 64 = .ok (.idiv, 1) := by decide +kernel
theorem dX9_judge_65 : decode cX9_judge 65 = .ok (.iload 5, 2) := by decide +kernel
theorem dX9_judge_67 : decode cX9_judge 67 = .ok (.bipush 10, 2) := by decide +kernel
theorem dX9_judge_69 : decode cX9_judge 69 = .ok (.idiv, 1) := by decide +kernel
theorem dX9_judge_70 : decode cX9_judge 70 = .ok (.bipush 10, 2) := by decide +kernel
theorem dX9_judge_72 : decode cX9_judge 72 = .ok (.irem, 1) := by decide +kernel
theorem dX9_judge_73 : decode cX9_judge 73 = .ok (.iload 5, 2) := by decide +kernel
theorem dX9_judge_75 : decode cX9_judge 75 = .ok (.bipush 10, 2) := by decide +kernel
theorem dX9_judge_77 : decode cX9_judge 77 = .ok (.irem, 1) := by decide +kernel
theorem dX9_judge_78 : decode cX9_judge 78 = .ok (.invokevirtual 216, 3) := by decide +kernel
theorem dX9_judge_81 : decode cX9_judge 81 = .ok (.ifCond .ne 6, 3) := by decide +kernel
theorem dX9_judge_84 : decode cX9_judge 84 = .ok (.iload 4, 2) := by decide +kernel
theorem dX9_judge_86 : decode cX9_judge 86 = .ok (.ireturn, 1) := by decide +kernel
theorem dX9_judge_87 : decode cX9_judge 87 = .ok (.iinc 4 1, 3) := by decide +kernel
theorem dX9_judge_90 : decode cX9_judge 90 = .ok (.goto (-48), 3) := by decide +kernel
theorem dX9_judge_93 : decode cX9_judge 93 = .ok (.bipush (-9), 2) := by decide +kernel
theorem dX9_judge_95 : decode cX9_judge 95 = .ok (.ireturn, 1) := by decide +kernel
theorem dX9_see_0 : decode cX9_see 0 = .ok (.aload_n 0, 1) := by decide +kernel
theorem dX9_see_1 : decode cX9_see 1 = .ok (.getfield 10, 3) := by decide +kernel
theorem dX9_see_4 : decode cX9_see 4 = .ok (.iload_n 1, 1) := by decide +kernel
theorem dX9_see_5 : decode cX9_see 5 = .ok (.invokevirtual 117, 3) := by decide +kernel
theorem dX9_see_8 : decode cX9_see 8 = .ok (.ifCond .ne 5, 3) := by decide +kernel
theorem dX9_see_11 : decode cX9_see 11 = .ok (.iconst (-1), 1) := by decide +kernel
theorem dX9_see_12 : decode cX9_see 12 = .ok (.ireturn, 1) := by decide +kernel
theorem dX9_see_13 : decode cX9_see 13 = .ok (.iload_n 2, 1) := by decide +kernel
theorem dX9_see_14 : decode cX9_see 14 = .ok (.ifCond .lt 9, 3) := by decide +kernel
theorem dX9_see_17 : decode cX9_see 17 = .ok (.iload_n 2, 1) := by decide +kernel
theorem dX9_see_18 : decode cX9_see 18 = .ok (.bipush 99, 2) := by decide +kernel
theorem dX9_see_20 : decode cX9_see 20 = .ok (.if_icmp .le 6, 3) := by decide +kernel
theorem dX9_see_23 : decode cX9_see 23 = .ok (.bipush (-2), 2) := by decide +kernel
theorem dX9_see_25 : decode cX9_see 25 = .ok (.ireturn, 1) := by decide +kernel
theorem dX9_see_26 : decode cX9_see 26 = .ok (.aload_n 0, 1) := by decide +kernel
theorem dX9_see_27 : decode cX9_see 27 = .ok (.getfield 64, 3) := by decide +kernel
theorem dX9_see_30 : decode cX9_see 30 = .ok (.iload_n 1, 1) := by decide +kernel
theorem dX9_see_31 : decode cX9_see 31 = .ok (.iload_n 2, 1) := by decide +kernel
theorem dX9_see_32 : decode cX9_see 32 = .ok (.invokevirtual 220, 3) := by decide +kernel
theorem dX9_see_35 : decode cX9_see 35 = .ok (.ifCond .eq 13, 3) := by decide +kernel
theorem dX9_see_38 : decode cX9_see 38 = .ok (.aload_n 0, 1) := by decide +kernel
theorem dX9_see_39 : decode cX9_see 39 = .ok (.getfield 64, 3) := by decide +kernel
theorem dX9_see_42 : decode cX9_see 42 = .ok (.invokevirtual 116, 3) := by decide +kernel
theorem dX9_see_45 : decode cX9_see 45 = .ok (.goto 5, 3) := by decide +kernel
theorem dX9_see_48 : decode cX9_see 48 = .ok (.bipush (-4), 2) := by decide +kernel
theorem dX9_see_50 : decode cX9_see 50 = .ok (.ireturn, 1) := by decide +kernel
theorem dX9_unsee_0 : decode cX9_unsee 0 = .ok (.aload_n 0, 1) := by decide +kernel
theorem dX9_unsee_1 : decode cX9_unsee 1 = .ok (.getfield 64, 3) := by decide +kernel
theorem dX9_unsee_4 : decode cX9_unsee 4 = .ok (.invokevirtual 116, 3) := by decide +kernel
theorem dX9_unsee_7 : decode cX9_unsee 7 = .ok (.istore_n 1, 1) := by decide +kernel
theorem dX9_unsee_8 : decode cX9_unsee 8 = .ok (.aload_n 0, 1) := by decide +kernel
theorem dX9_unsee_9 : decode cX9_unsee 9 = .ok (.getfield 64, 3) := by decide +kernel
theorem dX9_unsee_12 : decode cX9_unsee 12 = .ok (.invokevirtual 223, 3) := by decide +kernel
theorem dX9_unsee_15 : decode cX9_unsee 15 = .ok (.iload_n 1, 1) := by decide +kernel
theorem dX9_unsee_16 : decode cX9_unsee 16 = .ok (.ireturn, 1) := by decide +kernel
theorem dX9_which_0 : decode cX9_which 0 = .ok (.aload_n 0, 1) := by decide +kernel
theorem dX9_which_1 : decode cX9_which 1 = .ok (.getfield 10, 3) := by decide +kernel
theorem dX9_which_4 : decode cX9_which 4 = .ok (.iload_n 1, 1) := by decide +kernel
theorem dX9_which_5 : decode cX9_which 5 = .ok (.invokevirtual 117, 3) := by decide +kernel
theorem dX9_which_8 : decode cX9_which 8 = .ok (.ifCond .ne 5, 3) := by decide +kernel
theorem dX9_which_11 : decode cX9_which 11 = .ok (.iconst (-1), 1) := by decide +kernel
theorem dX9_which_12 : decode cX9_which 12 = .ok (.ireturn, 1) := by decide +kernel
theorem dX9_which_13 : decode cX9_which 13 = .ok (.aload_n 0, 1) := by decide +kernel
theorem dX9_which_14 : decode cX9_which 14 = .ok (.getfield 16, 3) := by decide +kernel
theorem dX9_which_17 : decode cX9_which 17 = .ok (.aload_n 0, 1) := by decide +kernel
theorem dX9_which_18 : decode cX9_which 18 = .ok (.getfield 10, 3) := by decide +kernel
theorem dX9_which_21 : decode cX9_which 21 = .ok (.invokevirtual 209, 3) := by decide +kernel
theorem dX9_which_24 : decode cX9_which 24 = .ok (.iconst 0, 1) := by decide +kernel
theorem dX9_which_25 : decode cX9_which 25 = .ok (.istore_n 2, 1) := by decide +kernel
theorem dX9_which_26 : decode cX9_which 26 = .ok (.iconst 1, 1) := by decide +kernel
theorem dX9_which_27 : decode cX9_which 27 = .ok (.istore_n 3, 1) := by decide +kernel
theorem dX9_which_28 : decode cX9_which 28 = .ok (.iload_n 3, 1) := by decide +kernel
theorem dX9_which_29 : decode cX9_which 29 = .ok (.bipush 9, 2) := by decide +kernel
theorem dX9_which_31 : decode cX9_which 31 = .ok (.if_icmp .gt 54, 3) := by decide +kernel
theorem dX9_which_34 : decode cX9_which 34 = .ok (.aload_n 0, 1) := by decide +kernel
theorem dX9_which_35 : decode cX9_which 35 = .ok (.getfield 16, 3) := by decide +kernel
theorem dX9_which_38 : decode cX9_which 38 = .ok (.iload_n 1, 1) := by decide +kernel
theorem dX9_which_39 : decode cX9_which 39 = .ok (.iload_n 3, 1) := by decide +kernel
theorem dX9_which_40 : decode cX9_which 40 = .ok (.invokevirtual 224, 3) := by decide +kernel
theorem dX9_which_43 : decode cX9_which 43 = .ok (.aload_n 0, 1) := by decide +kernel
theorem dX9_which_44 : decode cX9_which 44 = .ok (.getfield 22, 3) := by decide +kernel
theorem dX9_which_47 : decode cX9_which 47 = .ok (.aload_n 0, 1) := by decide +kernel
theorem dX9_which_48 : decode cX9_which 48 = .ok (.getfield 16, 3) := by decide +kernel
theorem dX9_which_51 : decode cX9_which 51 = .ok (.invokevirtual 94, 3) := by decide +kernel
theorem dX9_which_54 : decode cX9_which 54 = .ok (.pop, 1) := by decide +kernel
theorem dX9_which_55 : decode cX9_which 55 = .ok (.aload_n 0, 1) := by decide +kernel
theorem dX9_which_56 : decode cX9_which 56 = .ok (.getfield 64, 3) := by decide +kernel
theorem dX9_which_59 : decode cX9_which 59 = .ok (.aload_n 0, 1) := by decide +kernel
theorem dX9_which_60 : decode cX9_which 60 = .ok (.getfield 16, 3) := by decide +kernel
theorem dX9_which_63 : decode cX9_which 63 = .ok (.aload_n 0, 1) := by decide +kernel
theorem dX9_which_64 : decode cX9_which 64 = .ok (.getfield 22, 3) := by decide +kernel
theorem dX9_which_67 : decode cX9_which 67 = .ok (.invokevirtual 227, 3) := by decide +kernel
theorem dX9_which_70 : decode cX9_which 70 = .ok (.ifCond .eq 9, 3) := by decide +kernel
theorem dX9_which_73 : decode cX9_which 73 = .ok (.iload_n 2, 1) := by decide +kernel
theorem dX9_which_74 : decode cX9_which 74 = .ok (.iconst 1, 1) := by decide +kernel
theorem dX9_which_75 : decode cX9_which 75 = .ok (.iload_n 3, 1) := by decide +kernel
theorem dX9_which_76 : decode cX9_which 76 = .ok (.ishl, 1) := by decide +kernel
theorem dX9_which_77 : decode cX9_which 77 = .ok (.ior, 1) := by decide +kernel
theorem dX9_which_78 : decode cX9_which 78 = .ok (.istore_n 2, 1) := by decide +kernel
theorem dX9_which_79 : decode cX9_which 79 = .ok (.iinc 3 1, 3) := by decide +kernel
theorem dX9_which_82 : decode cX9_which 82 = .ok (.goto (-54), 3) := by decide +kernel
theorem dX9_which_85 : decode cX9_which 85 = .ok (.iload_n 2, 1) := by decide +kernel
theorem dX9_which_86 : decode cX9_which 86 = .ok (.ireturn, 1) := by decide +kernel
theorem dX9_share_0 : decode cX9_share 0 = .ok (.aload_n 0, 1) := by decide +kernel
theorem dX9_share_1 : decode cX9_share 1 = .ok (.getfield 10, 3) := by decide +kernel
theorem dX9_share_4 : decode cX9_share 4 = .ok (.iload_n 1, 1) := by decide +kernel
theorem dX9_share_5 : decode cX9_share 5 = .ok (.invokevirtual 117, 3) := by decide +kernel
theorem dX9_share_8 : decode cX9_share 8 = .ok (.ifCond .ne 5, 3) := by decide +kernel
theorem dX9_share_11 : decode cX9_share 11 = .ok (.iconst (-1), 1) := by decide +kernel
theorem dX9_share_12 : decode cX9_share 12 = .ok (.ireturn, 1) := by decide +kernel
theorem dX9_share_13 : decode cX9_share 13 = .ok (.iconst 1, 1) := by decide +kernel
theorem dX9_share_14 : decode cX9_share 14 = .ok (.iload_n 1, 1) := by decide +kernel
theorem dX9_share_15 : decode cX9_share 15 = .ok (.ishl, 1) := by decide +kernel
theorem dX9_share_16 : decode cX9_share 16 = .ok (.istore_n 3, 1) := by decide +kernel
theorem dX9_share_17 : decode cX9_share 17 = .ok (.aload_n 0, 1) := by decide +kernel
theorem dX9_share_18 : decode cX9_share 18 = .ok (.invokevirtual 231, 3) := by decide +kernel
theorem dX9_share_21 : decode cX9_share 21 = .ok (.istore 4, 2) := by decide +kernel
theorem dX9_share_23 : decode cX9_share 23 = .ok (.iload 4, 2) := by decide +kernel
theorem dX9_share_25 : decode cX9_share 25 = .ok (.iload_n 3, 1) := by decide +kernel
theorem dX9_share_26 : decode cX9_share 26 = .ok (.iand, 1) := by decide +kernel
theorem dX9_share_27 : decode cX9_share 27 = .ok (.ifCond .ne 10, 3) := by decide +kernel
theorem dX9_share_30 : decode cX9_share 30 = .ok (.lconst 0, 1) := by decide +kernel
theorem dX9_share_31 : decode cX9_share 31 = .ok (.lconst 1, 1) := by decide +kernel
theorem dX9_share_32 : decode cX9_share 32 = .ok (.iload_n 2, 1) := by decide +kernel
theorem dX9_share_33 : decode cX9_share 33 = .ok (.invokestatic 234, 3) := by decide +kernel
theorem dX9_share_36 : decode cX9_share 36 = .ok (.ireturn, 1) := by decide +kernel
theorem dX9_share_37 : decode cX9_share 37 = .ok (.aload_n 0, 1) := by decide +kernel
theorem dX9_share_38 : decode cX9_share 38 = .ok (.getfield 16, 3) := by decide +kernel
theorem dX9_share_41 : decode cX9_share 41 = .ok (.aload_n 0, 1) := by decide +kernel
theorem dX9_share_42 : decode cX9_share 42 = .ok (.getfield 10, 3) := by decide +kernel
theorem dX9_share_45 : decode cX9_share 45 = .ok (.invokevirtual 209, 3) := by decide +kernel
theorem dX9_share_48 : decode cX9_share 48 = .ok (.iload 4, 2) := by decide +kernel
theorem dX9_share_50 : decode cX9_share 50 = .ok (.iload_n 3, 1) := by decide +kernel
theorem dX9_share_51 : decode cX9_share 51 = .ok (.iconst (-1), 1) := by decide +kernel
theorem dX9_share_52 : decode cX9_share 52 = .ok (.ixor, 1) := by decide +kernel
theorem dX9_share_53 : decode cX9_share 53 = .ok (.iand, 1) := by decide +kernel
theorem dX9_share_54 : decode cX9_share 54 = .ok (.istore 5, 2) := by decide +kernel
theorem dX9_share_56 : decode cX9_share 56 = .ok (.iload 5, 2) := by decide +kernel
theorem dX9_share_58 : decode cX9_share 58 = .ok (.invokestatic 238, 3) := by decide +kernel
theorem dX9_share_61 : decode cX9_share 61 = .ok (.istore 6, 2) := by decide +kernel
theorem dX9_share_63 : decode cX9_share 63 = .ok (.lconst 0, 1) := by decide +kernel
theorem dX9_share_64 : decode cX9_share 64 = .ok (.lstore 7, 2) := by decide +kernel
theorem dX9_share_66 : decode cX9_share 66 = .ok (.iconst 0, 1) := by decide +kernel
theorem dX9_share_67 : decode cX9_share 67 = .ok (.istore 9, 2) := by decide +kernel
theorem dX9_share_69 : decode cX9_share 69 = .ok (.iload 9, 2) := by decide +kernel
theorem dX9_share_71 : decode cX9_share 71 = .ok (.iload 5, 2) := by decide +kernel
theorem dX9_share_73 : decode cX9_share 73 = .ok (.if_icmp .gt 66, 3) := by decide +kernel
theorem dX9_share_76 : decode cX9_share 76 = .ok (.iload 9, 2) := by decide +kernel
theorem dX9_share_78 : decode cX9_share 78 = .ok (.iload 5, 2) := by decide +kernel
theorem dX9_share_80 : decode cX9_share 80 = .ok (.iconst (-1), 1) := by decide +kernel
theorem dX9_share_81 : decode cX9_share 81 = .ok (.ixor, 1) := by decide +kernel
theorem dX9_share_82 : decode cX9_share 82 = .ok (.iand, 1) := by decide +kernel
theorem dX9_share_83 : decode cX9_share 83 = .ok (.ifCond .ne 50, 3) := by decide +kernel
theorem dX9_share_86 : decode cX9_share 86 = .ok (.iload 9, 2) := by decide +kernel
theorem dX9_share_88 : decode cX9_share 88 = .ok (.invokestatic 238, 3) := by decide +kernel
theorem dX9_share_91 : decode cX9_share 91 = .ok (.istore 10, 2) := by decide +kernel
theorem dX9_share_93 : decode cX9_share 93 = .ok (.iload 10, 2) := by decide +kernel
theorem dX9_share_95 : decode cX9_share 95 = .ok (.invokestatic 243, 3) := by decide +kernel
theorem dX9_share_98 : decode cX9_share 98 = .ok (.iload 6, 2) := by decide +kernel
theorem dX9_share_100 : decode cX9_share 100 = .ok (.iload 10, 2) := by decide +kernel
theorem dX9_share_102 : decode cX9_share 102 = .ok (.isub, 1) := by decide +kernel
theorem dX9_share_103 : decode cX9_share 103 = .ok (.invokestatic 243, 3) := by decide +kernel
theorem dX9_share_106 : decode cX9_share 106 = .ok (.lmul, 1) := by decide +kernel
theorem dX9_share_107 : decode cX9_share 107 = .ok (.lstore 11, 2) := by decide +kernel
theorem dX9_share_109 : decode cX9_share 109 = .ok (.lload 7, 2) := by decide +kernel
theorem dX9_share_111 : decode cX9_share 111 = .ok (.lload 11, 2) := by decide +kernel
theorem dX9_share_113 : decode cX9_share 113 = .ok (.aload_n 0, 1) := by decide +kernel
theorem dX9_share_114 : decode cX9_share 114 = .ok (.iload 9, 2) := by decide +kernel
theorem dX9_share_116 : decode cX9_share 116 = .ok (.iload_n 3, 1) := by decide +kernel
theorem dX9_share_117 : decode cX9_share 117 = .ok (.ior, 1) := by decide +kernel
theorem dX9_share_118 : decode cX9_share 118 = .ok (.invokevirtual 246, 3) := by decide +kernel
theorem dX9_share_121 : decode cX9_share 121 = .ok (.aload_n 0, 1) := by decide +kernel
theorem dX9_share_122 : decode cX9_share 122 = .ok (.iload 9, 2) := by decide +kernel
theorem dX9_share_124 : decode cX9_share 124 = .ok (.invokevirtual 246, 3) := by decide +kernel
theorem dX9_share_127 : decode cX9_share 127 = .ok (.isub, 1) := by decide +kernel
theorem dX9_share_128 : decode cX9_share 128 = .ok (.i2l, 1) := by decide +kernel
theorem dX9_share_129 : decode cX9_share 129 = .ok (.lmul, 1) := by decide +kernel
theorem dX9_share_130 : decode cX9_share 130 = .ok (.ladd, 1) := by decide +kernel
theorem dX9_share_131 : decode cX9_share 131 = .ok (.lstore 7, 2) := by decide +kernel
theorem dX9_share_133 : decode cX9_share 133 = .ok (.iinc 9 1, 3) := by decide +kernel
theorem dX9_share_136 : decode cX9_share 136 = .ok (.goto (-67), 3) := by decide +kernel
theorem dX9_share_139 : decode cX9_share 139 = .ok (.lload 7, 2) := by decide +kernel
theorem dX9_share_141 : decode cX9_share 141 = .ok (.iload 6, 2) := by decide +kernel
theorem dX9_share_143 : decode cX9_share 143 = .ok (.iconst 1, 1) := by decide +kernel
theorem dX9_share_144 : decode cX9_share 144 = .ok (.iadd, 1) := by decide +kernel
theorem dX9_share_145 : decode cX9_share 145 = .ok (.invokestatic 243, 3) := by decide +kernel
theorem dX9_share_148 : decode cX9_share 148 = .ok (.iload_n 2, 1) := by decide +kernel
theorem dX9_share_149 : decode cX9_share 149 = .ok (.invokestatic 234, 3) := by decide +kernel
theorem dX9_share_152 : decode cX9_share 152 = .ok (.ireturn, 1) := by decide +kernel
theorem dX9_chance_0 : decode cX9_chance 0 = .ok (.iload_n 1, 1) := by decide +kernel
theorem dX9_chance_1 : decode cX9_chance 1 = .ok (.ifCond .lt 19, 3) := by decide +kernel
theorem dX9_chance_4 : decode cX9_chance 4 = .ok (.iload_n 1, 1) := by decide +kernel
theorem dX9_chance_5 : decode cX9_chance 5 = .ok (.bipush 8, 2) := by decide +kernel
theorem dX9_chance_7 : decode cX9_chance 7 = .ok (.if_icmp .gt 13, 3) := by decide +kernel
theorem dX9_chance_10 : decode cX9_chance 10 = .ok (.iload_n 2, 1) := by decide +kernel
theorem dX9_chance_11 : decode cX9_chance 11 = .ok (.ifCond .lt 9, 3) := by decide +kernel
theorem dX9_chance_14 : decode cX9_chance 14 = .ok (.iload_n 2, 1) := by decide +kernel
theorem dX9_chance_15 : decode cX9_chance 15 = .ok (.bipush 10, 2) := by decide +kernel
theorem dX9_chance_17 : decode cX9_chance 17 = .ok (.if_icmp .le 6, 3) := by decide +kernel
theorem dX9_chance_20 : decode cX9_chance 20 = .ok (.bipush (-2), 2) := by decide +kernel
theorem dX9_chance_22 : decode cX9_chance 22 = .ok (.ireturn, 1) := by decide +kernel
theorem dX9_chance_23 : decode cX9_chance 23 = .ok (.lconst 1, 1) := by decide +kernel
theorem dX9_chance_24 : decode cX9_chance 24 = .ok (.lstore 4, 2) := by decide +kernel
theorem dX9_chance_26 : decode cX9_chance 26 = .ok (.iconst 0, 1) := by decide +kernel
theorem dX9_chance_27 : decode cX9_chance 27 = .ok (.istore 6, 2) := by decide +kernel
theorem dX9_chance_29 : decode cX9_chance 29 = .ok (.iload 6, 2) := by decide +kernel
theorem dX9_chance_31 : decode cX9_chance 31 = .ok (.aload_n 0, 1) := by decide +kernel
theorem dX9_chance_32 : decode cX9_chance 32 = .ok (.getfield 10, 3) := by decide +kernel
theorem dX9_chance_35 : decode cX9_chance 35 = .ok (.invokevirtual 110, 3) := by decide +kernel
theorem dX9_chance_38 : decode cX9_chance 38 = .ok (.if_icmp .ge 17, 3) := by decide +kernel
theorem dX9_chance_41 : decode cX9_chance 41 = .ok (.lload 4, 2) := by decide +kernel
theorem dX9_chance_43 : decode cX9_chance 43 = .ok (.ldc2_w 249, 3) := by decide +kernel
theorem dX9_chance_46 : decode cX9_chance 46 = .ok (.lmul, 1) := by decide +kernel
theorem dX9_chance_47 : decode cX9_chance 47 = .ok (.lstore 4, 2) := by decide +kernel
theorem dX9_chance_49 : decode cX9_chance 49 = .ok (.iinc 6 1, 3) := by decide +kernel
theorem dX9_chance_52 : decode cX9_chance 52 = .ok (.goto (-23), 3) := by decide +kernel
theorem dX9_chance_55 : decode cX9_chance 55 = .ok (.aload_n 0, 1) := by decide +kernel
theorem dX9_chance_56 : decode cX9_chance 56 = .ok (.iconst 0, 1) := by decide +kernel
theorem dX9_chance_57 : decode cX9_chance 57 = .ok (.iconst 1, 1) := by decide +kernel
theorem dX9_chance_58 : decode cX9_chance 58 = .ok (.iload_n 1, 1) := by decide +kernel
theorem dX9_chance_59 : decode cX9_chance 59 = .ok (.iload_n 2, 1) := by decide +kernel
theorem dX9_chance_60 : decode cX9_chance 60 = .ok (.invokevirtual 251, 3) := by decide +kernel
theorem dX9_chance_63 : decode cX9_chance 63 = .ok (.lload 4, 2) := by decide +kernel
theorem dX9_chance_65 : decode cX9_chance 65 = .ok (.iload_n 3, 1) := by decide +kernel
theorem dX9_chance_66 : decode cX9_chance 66 = .ok (.invokestatic 234, 3) := by decide +kernel
theorem dX9_chance_69 : decode cX9_chance 69 = .ok (.ireturn, 1) := by decide +kernel
theorem dX9_seed_0 : decode cX9_seed 0 = .ok (.aload_n 0, 1) := by decide +kernel
theorem dX9_seed_1 : decode cX9_seed 1 = .ok (.getfield 255, 3) := by decide +kernel
theorem dX9_seed_4 : decode cX9_seed 4 = .ok (.lstore_n 3, 1) := by decide +kernel
theorem dX9_seed_5 : decode cX9_seed 5 = .ok (.aload_n 0, 1) := by decide +kernel
theorem dX9_seed_6 : decode cX9_seed 6 = .ok (.lload_n 1, 1) := by decide +kernel
theorem dX9_seed_7 : decode cX9_seed 7 = .ok (.putfield 255, 3) := by decide +kernel
theorem dX9_seed_10 : decode cX9_seed 10 = .ok (.lload_n 3, 1) := by decide +kernel
theorem dX9_seed_11 : decode cX9_seed 11 = .ok (.lreturn, 1) := by decide +kernel
theorem dX9_drawn_0 : decode cX9_drawn 0 = .ok (.iload_n 1, 1) := by decide +kernel
theorem dX9_drawn_1 : decode cX9_drawn 1 = .ok (.iconst 1, 1) := by decide +kernel
theorem dX9_drawn_2 : decode cX9_drawn 2 = .ok (.if_icmp .lt 9, 3) := by decide +kernel
theorem dX9_drawn_5 : decode cX9_drawn 5 = .ok (.iload_n 1, 1) := by decide +kernel
theorem dX9_drawn_6 : decode cX9_drawn 6 = .ok (.bipush 40, 2) := by decide +kernel
theorem dX9_drawn_8 : decode cX9_drawn 8 = .ok (.if_icmp .le 6, 3) := by decide +kernel
theorem dX9_drawn_11 : decode cX9_drawn 11 = .ok (.bipush (-2), 2) := by decide +kernel
theorem dX9_drawn_13 : decode cX9_drawn 13 = .ok (.ireturn, 1) := by decide +kernel
theorem dX9_drawn_14 : decode cX9_drawn 14 = .ok (.aload_n 0, 1) := by decide +kernel
theorem dX9_drawn_15 : decode cX9_drawn 15 = .ok (.getfield 16, 3) := by decide +kernel
theorem dX9_drawn_18 : decode cX9_drawn 18 = .ok (.aload_n 0, 1) := by decide +kernel
theorem dX9_drawn_19 : decode cX9_drawn 19 = .ok (.getfield 10, 3) := by decide +kernel
theorem dX9_drawn_22 : decode cX9_drawn 22 = .ok (.invokevirtual 209, 3) := by decide +kernel
theorem dX9_drawn_25 : decode cX9_drawn 25 = .ok (.iconst 0, 1) := by decide +kernel
theorem dX9_drawn_26 : decode cX9_drawn 26 = .ok (.istore_n 2, 1) := by decide +kernel
theorem dX9_drawn_27 : decode cX9_drawn 27 = .ok (.iconst 0, 1) := by decide +kernel
theorem dX9_drawn_28 : decode cX9_drawn 28 = .ok (.istore_n 3, 1) := by decide +kernel
theorem dX9_drawn_29 : decode cX9_drawn 29 = .ok (.iload_n 3, 1) := by decide +kernel
theorem dX9_drawn_30 : decode cX9_drawn 30 = .ok (.iload_n 1, 1) := by decide +kernel
theorem dX9_drawn_31 : decode cX9_drawn 31 = .ok (.if_icmp .ge 51, 3) := by decide +kernel
theorem dX9_drawn_34 : decode cX9_drawn 34 = .ok (.aload_n 0, 1) := by decide +kernel
theorem dX9_drawn_35 : decode cX9_drawn 35 = .ok (.aload_n 0, 1) := by decide +kernel
theorem dX9_drawn_36 : decode cX9_drawn 36 = .ok (.getfield 255, 3) := by decide +kernel
theorem dX9_drawn_39 : decode cX9_drawn 39 = .ok (.ldc2_w 259, 3) := by decide +kernel
theorem dX9_drawn_42 : decode cX9_drawn 42 = .ok (.lmul, 1) := by decide +kernel
theorem dX9_drawn_43 : decode cX9_drawn 43 = .ok (.ldc2_w 261, 3) := by decide +kernel
theorem dX9_drawn_46 : decode cX9_drawn 46 = .ok (.ladd, 1) := by decide +kernel
theorem dX9_drawn_47 : decode cX9_drawn 47 = .ok (.putfield 255, 3) := by decide +kernel
theorem dX9_drawn_50 : decode cX9_drawn 50 = .ok (.aload_n 0, 1) := by decide +kernel
theorem dX9_drawn_51 : decode cX9_drawn 51 = .ok (.aload_n 0, 1) := by decide +kernel
theorem dX9_drawn_52 : decode cX9_drawn 52 = .ok (.getfield 255, 3) := by decide +kernel
theorem dX9_drawn_55 : decode cX9_drawn 55 = .ok (.bipush 33, 2) := by decide +kernel
theorem dX9_drawn_57 : decode cX9_drawn 57 = .ok (.lushr, 1) := by decide +kernel
theorem dX9_drawn_58 : decode cX9_drawn 58 = .ok (.l2i, 1) := by decide +kernel
theorem dX9_drawn_59 : decode cX9_drawn 59 = .ok (.invokevirtual 263, 3) := by decide +kernel
theorem dX9_drawn_62 : decode cX9_drawn 62 = .ok (.iload_n 2, 1) := by decide +kernel
theorem dX9_drawn_63 : decode cX9_drawn 63 = .ok (.aload_n 0, 1) := by decide +kernel
theorem dX9_drawn_64 : decode cX9_drawn 64 = .ok (.getfield 22, 3) := by decide +kernel
theorem dX9_drawn_67 : decode cX9_drawn 67 = .ok (.aload_n 0, 1) := by decide +kernel
theorem dX9_drawn_68 : decode cX9_drawn 68 = .ok (.getfield 16, 3) := by decide +kernel
theorem dX9_drawn_71 : decode cX9_drawn 71 = .ok (.invokevirtual 94, 3) := by decide +kernel
theorem dX9_drawn_74 : decode cX9_drawn 74 = .ok (.iadd, 1) := by decide +kernel
theorem dX9_drawn_75 : decode cX9_drawn 75 = .ok (.istore_n 2, 1) := by decide +kernel
theorem dX9_drawn_76 : decode cX9_drawn 76 = .ok (.iinc 3 1, 3) := by decide +kernel
theorem dX9_drawn_79 : decode cX9_drawn 79 = .ok (.goto (-50), 3) := by decide +kernel
theorem dX9_drawn_82 : decode cX9_drawn 82 = .ok (.iload_n 2, 1) := by decide +kernel
theorem dX9_drawn_83 : decode cX9_drawn 83 = .ok (.ireturn, 1) := by decide +kernel
theorem dX9_keep_0 : decode cX9_keep 0 = .ok (.iload_n 1, 1) := by decide +kernel
theorem dX9_keep_1 : decode cX9_keep 1 = .ok (.ifCond .lt 8, 3) := by decide +kernel
theorem dX9_keep_4 : decode cX9_keep 4 = .ok (.iload_n 1, 1) := by decide +kernel
theorem dX9_keep_5 : decode cX9_keep 5 = .ok (.iconst 2, 1) := by decide +kernel
theorem dX9_keep_6 : decode cX9_keep 6 = .ok (.if_icmp .lt 5, 3) := by decide +kernel
theorem dX9_keep_9 : decode cX9_keep 9 = .ok (.iconst (-1), 1) := by decide +kernel
theorem dX9_keep_10 : decode cX9_keep 10 = .ok (.ireturn, 1) := by decide +kernel
theorem dX9_keep_11 : decode cX9_keep 11 = .ok (.aload_n 0, 1) := by decide +kernel
theorem dX9_keep_12 : decode cX9_keep 12 = .ok (.getfield 57, 3) := by decide +kernel
theorem dX9_keep_15 : decode cX9_keep 15 = .ok (.iload_n 1, 1) := by decide +kernel
theorem dX9_keep_16 : decode cX9_keep 16 = .ok (.aload_n 0, 1) := by decide +kernel
theorem dX9_keep_17 : decode cX9_keep 17 = .ok (.getfield 10, 3) := by decide +kernel
theorem dX9_keep_20 : decode cX9_keep 20 = .ok (.invokevirtual 266, 3) := by decide +kernel
theorem dX9_keep_23 : decode cX9_keep 23 = .ok (.aload_n 0, 1) := by decide +kernel
theorem dX9_keep_24 : decode cX9_keep 24 = .ok (.getfield 22, 3) := by decide +kernel
theorem dX9_keep_27 : decode cX9_keep 27 = .ok (.aload_n 0, 1) := by decide +kernel
theorem dX9_keep_28 : decode cX9_keep 28 = .ok (.getfield 10, 3) := by decide +kernel
theorem dX9_keep_31 : decode cX9_keep 31 = .ok (.invokevirtual 94, 3) := by decide +kernel
theorem dX9_keep_34 : decode cX9_keep 34 = .ok (.ireturn, 1) := by decide +kernel
theorem dX9_again_0 : decode cX9_again 0 = .ok (.iload_n 1, 1) := by decide +kernel
theorem dX9_again_1 : decode cX9_again 1 = .ok (.ifCond .lt 8, 3) := by decide +kernel
theorem dX9_again_4 : decode cX9_again 4 = .ok (.iload_n 1, 1) := by decide +kernel
theorem dX9_again_5 : decode cX9_again 5 = .ok (.iconst 2, 1) := by decide +kernel
theorem dX9_again_6 : decode cX9_again 6 = .ok (.if_icmp .lt 5, 3) := by decide +kernel
theorem dX9_again_9 : decode cX9_again 9 = .ok (.iconst (-1), 1) := by decide +kernel
theorem dX9_again_10 : decode cX9_again 10 = .ok (.ireturn, 1) := by decide +kernel
theorem dX9_again_11 : decode cX9_again 11 = .ok (.aload_n 0, 1) := by decide +kernel
theorem dX9_again_12 : decode cX9_again 12 = .ok (.getfield 57, 3) := by decide +kernel
theorem dX9_again_15 : decode cX9_again 15 = .ok (.iload_n 1, 1) := by decide +kernel
theorem dX9_again_16 : decode cX9_again 16 = .ok (.aload_n 0, 1) := by decide +kernel
theorem dX9_again_17 : decode cX9_again 17 = .ok (.getfield 10, 3) := by decide +kernel
theorem dX9_again_20 : decode cX9_again 20 = .ok (.invokevirtual 270, 3) := by decide +kernel
theorem dX9_again_23 : decode cX9_again 23 = .ok (.ifCond .ne 6, 3) := by decide +kernel
theorem dX9_again_26 : decode cX9_again 26 = .ok (.bipush (-3), 2) := by decide +kernel
theorem dX9_again_28 : decode cX9_again 28 = .ok (.ireturn, 1) := by decide +kernel
theorem dX9_again_29 : decode cX9_again 29 = .ok (.aload_n 0, 1) := by decide +kernel
theorem dX9_again_30 : decode cX9_again 30 = .ok (.getfield 50, 3) := by decide +kernel
theorem dX9_again_33 : decode cX9_again 33 = .ok (.invokevirtual 90, 3) := by decide +kernel
theorem dX9_again_36 : decode cX9_again 36 = .ok (.aload_n 0, 1) := by decide +kernel
theorem dX9_again_37 : decode cX9_again 37 = .ok (.getfield 22, 3) := by decide +kernel
theorem dX9_again_40 : decode cX9_again 40 = .ok (.aload_n 0, 1) := by decide +kernel
theorem dX9_again_41 : decode cX9_again 41 = .ok (.getfield 10, 3) := by decide +kernel
theorem dX9_again_44 : decode cX9_again 44 = .ok (.invokevirtual 94, 3) := by decide +kernel
theorem dX9_again_47 : decode cX9_again 47 = .ok (.ireturn, 1) := by decide +kernel
theorem dX9_refusalOfMove_0 : decode cX9_refusalOfMove 0 = .ok (.iload_n 1, 1) := by decide +kernel
theorem dX9_refusalOfMove_1 : decode cX9_refusalOfMove 1 = .ok (.ifCond .eq 19, 3) := by decide +kernel
theorem dX9_refusalOfMove_4 : decode cX9_refusalOfMove 4 = .ok (.aload_n 0, 1) := by decide +kernel
theorem dX9_refusalOfMove_5 : decode cX9_refusalOfMove 5 = .ok (.iload_n 1, 1) := by decide +kernel
theorem dX9_refusalOfMove_6 : decode cX9_refusalOfMove 6 = .ok (.invokevirtual 117, 3) := by decide +kernel
theorem dX9_refusalOfMove_9 : decode cX9_refusalOfMove 9 = .ok (.ifCond .eq 11, 3) := by decide +kernel
theorem dX9_refusalOfMove_12 : decode cX9_refusalOfMove 12 = .ok (.aload_n 0, 1) := by decide +kernel
theorem dX9_refusalOfMove_13 : decode cX9_refusalOfMove 13 = .ok (.iload_n 2, 1) := by decide +kernel
theorem dX9_refusalOfMove_14 : decode cX9_refusalOfMove 14 = .ok (.invokevirtual 117, 3) := by decide +kernel
theorem dX9_refusalOfMove_17 : decode cX9_refusalOfMove 17 = .ok (.ifCond .ne 5, 3) := by decide +kernel
theorem dX9_refusalOfMove_20 : decode cX9_refusalOfMove 20 = .ok (.iconst (-1), 1) := by decide +kernel
theorem dX9_refusalOfMove_21 : decode cX9_refusalOfMove 21 = .ok (.ireturn, 1) := by decide +kernel
theorem dX9_refusalOfMove_22 : decode cX9_refusalOfMove 22 = .ok (.iload_n 2, 1) := by decide +kernel
theorem dX9_refusalOfMove_23 : decode cX9_refusalOfMove 23 = .ok (.aload_n 0, 1) := by decide +kernel
theorem dX9_refusalOfMove_24 : decode cX9_refusalOfMove 24 = .ok (.iload_n 1, 1) := by decide +kernel
theorem dX9_refusalOfMove_25 : decode cX9_refusalOfMove 25 = .ok (.invokevirtual 127, 3) := by decide +kernel
theorem dX9_refusalOfMove_28 : decode cX9_refusalOfMove 28 = .ok (.if_icmp .eq 15, 3) := by decide +kernel
theorem dX9_refusalOfMove_31 : decode cX9_refusalOfMove 31 = .ok (.aload_n 0, 1) := by decide +kernel
theorem dX9_refusalOfMove_32 : decode cX9_refusalOfMove 32 = .ok (.iload_n 1, 1) := by decide +kernel
theorem dX9_refusalOfMove_33 : decode cX9_refusalOfMove 33 = .ok (.invokevirtual 274, 3) := by decide +kernel
theorem dX9_refusalOfMove_36 : decode cX9_refusalOfMove 36 = .ok (.iload_n 2, 1) := by decide +kernel
theorem dX9_refusalOfMove_37 : decode cX9_refusalOfMove 37 = .ok (.ishr, 1) := by decide +kernel
theorem dX9_refusalOfMove_38 : decode cX9_refusalOfMove 38 = .ok (.iconst 1, 1) := by decide +kernel
theorem dX9_refusalOfMove_39 : decode cX9_refusalOfMove 39 = .ok (.iand, 1) := by decide +kernel
theorem dX9_refusalOfMove_40 : decode cX9_refusalOfMove 40 = .ok (.ifCond .eq 7, 3) := by decide +kernel
theorem dX9_refusalOfMove_43 : decode cX9_refusalOfMove 43 = .ok (.iconst 1, 1) := by decide +kernel
theorem dX9_refusalOfMove_44 : decode cX9_refusalOfMove 44 = .ok (.goto 4, 3) := by decide +kernel
theorem dX9_refusalOfMove_47 : decode cX9_refusalOfMove 47 = .ok (.iconst 0, 1) := by decide +kernel
theorem dX9_refusalOfMove_48 : decode cX9_refusalOfMove 48 = .ok (.istore_n 3, 1) := by decide +kernel
theorem dX9_refusalOfMove_49 : decode cX9_refusalOfMove 49 = .ok (.iload_n 3, 1) := by decide +kernel
theorem dX9_refusalOfMove_50 : decode cX9_refusalOfMove 50 = .ok (.ifCond .eq 8, 3) := by decide +kernel
theorem dX9_refusalOfMove_53 : decode cX9_refusalOfMove 53 = .ok (.bipush (-3), 2) := by decide +kernel
theorem dX9_refusalOfMove_55 : decode cX9_refusalOfMove 55 = .ok (.goto 4, 3) := by decide +kernel
theorem dX9_refusalOfMove_58 : decode cX9_refusalOfMove 58 = .ok (.iconst 0, 1) := by decide +kernel
theorem dX9_refusalOfMove_59 : decode cX9_refusalOfMove 59 = .ok (.ireturn, 1) := by decide +kernel
theorem dX9_refusalOfChange_0 : decode cX9_refusalOfChange 0 = .ok (.aload_n 0, 1) := by decide +kernel
theorem dX9_refusalOfChange_1 : decode cX9_refusalOfChange 1 = .ok (.iload_n 1, 1) := by decide +kernel
theorem dX9_refusalOfChange_2 : decode cX9_refusalOfChange 2 = .ok (.invokevirtual 142, 3) := by decide +kernel
theorem dX9_refusalOfChange_5 : decode cX9_refusalOfChange 5 = .ok (.ifCond .eq 13, 3) := by decide +kernel
theorem dX9_refusalOfChange_8 : decode cX9_refusalOfChange 8 = .ok (.aload_n 0, 1) := by decide +kernel
theorem dX9_refusalOfChange_9 : decode cX9_refusalOfChange 9 = .ok (.iload_n 1, 1) := by decide +kernel
theorem dX9_refusalOfChange_10 : decode cX9_refusalOfChange 10 = .ok (.iconst 1, 1) := by decide +kernel
theorem dX9_refusalOfChange_11 : decode cX9_refusalOfChange 11 = .ok (.iadd, 1) := by decide +kernel
theorem dX9_refusalOfChange_12 : decode cX9_refusalOfChange 12 = .ok (.invokevirtual 142, 3) := by decide +kernel
theorem dX9_refusalOfChange_15 : decode cX9_refusalOfChange 15 = .ok (.ifCond .ne 5, 3) := by decide +kernel
theorem dX9_refusalOfChange_18 : decode cX9_refusalOfChange 18 = .ok (.iconst (-1), 1) := by decide +kernel
theorem dX9_refusalOfChange_19 : decode cX9_refusalOfChange 19 = .ok (.ireturn, 1) := by decide +kernel
theorem dX9_refusalOfChange_20 : decode cX9_refusalOfChange 20 = .ok (.aload_n 0, 1) := by decide +kernel
theorem dX9_refusalOfChange_21 : decode cX9_refusalOfChange 21 = .ok (.aload_n 0, 1) := by decide +kernel
theorem dX9_refusalOfChange_22 : decode cX9_refusalOfChange 22 = .ok (.iload_n 1, 1) := by decide +kernel
theorem dX9_refusalOfChange_23 : decode cX9_refusalOfChange 23 = .ok (.iconst 1, 1) := by decide +kernel
theorem dX9_refusalOfChange_24 : decode cX9_refusalOfChange 24 = .ok (.iadd, 1) := by decide +kernel
theorem dX9_refusalOfChange_25 : decode cX9_refusalOfChange 25 = .ok (.invokevirtual 145, 3) := by decide +kernel
theorem dX9_refusalOfChange_28 : decode cX9_refusalOfChange 28 = .ok (.invokevirtual 127, 3) := by decide +kernel
theorem dX9_refusalOfChange_31 : decode cX9_refusalOfChange 31 = .ok (.aload_n 0, 1) := by decide +kernel
theorem dX9_refusalOfChange_32 : decode cX9_refusalOfChange 32 = .ok (.iload_n 1, 1) := by decide +kernel
theorem dX9_refusalOfChange_33 : decode cX9_refusalOfChange 33 = .ok (.invokevirtual 145, 3) := by decide +kernel
theorem dX9_refusalOfChange_36 : decode cX9_refusalOfChange 36 = .ok (.if_icmp .ne 8, 3) := by decide +kernel
theorem dX9_refusalOfChange_39 : decode cX9_refusalOfChange 39 = .ok (.bipush (-3), 2) := by decide +kernel
theorem dX9_refusalOfChange_41 : decode cX9_refusalOfChange 41 = .ok (.goto 4, 3) := by decide +kernel
theorem dX9_refusalOfChange_44 : decode cX9_refusalOfChange 44 = .ok (.iconst 0, 1) := by decide +kernel
theorem dX9_refusalOfChange_45 : decode cX9_refusalOfChange 45 = .ok (.ireturn, 1) := by decide +kernel
theorem dX9_refusalOfSet_0 : decode cX9_refusalOfSet 0 = .ok (.aload_n 0, 1) := by decide +kernel
theorem dX9_refusalOfSet_1 : decode cX9_refusalOfSet 1 = .ok (.iload_n 1, 1) := by decide +kernel
theorem dX9_refusalOfSet_2 : decode cX9_refusalOfSet 2 = .ok (.invokevirtual 117, 3) := by decide +kernel
theorem dX9_refusalOfSet_5 : decode cX9_refusalOfSet 5 = .ok (.ifCond .ne 5, 3) := by decide +kernel
theorem dX9_refusalOfSet_8 : decode cX9_refusalOfSet 8 = .ok (.iconst (-1), 1) := by decide +kernel
theorem dX9_refusalOfSet_9 : decode cX9_refusalOfSet 9 = .ok (.ireturn, 1) := by decide +kernel
theorem dX9_refusalOfSet_10 : decode cX9_refusalOfSet 10 = .ok (.iload_n 2, 1) := by decide +kernel
theorem dX9_refusalOfSet_11 : decode cX9_refusalOfSet 11 = .ok (.ifCond .lt 17, 3) := by decide +kernel
theorem dX9_refusalOfSet_14 : decode cX9_refusalOfSet 14 = .ok (.iload_n 2, 1) := by decide +kernel
theorem dX9_refusalOfSet_15 : decode cX9_refusalOfSet 15 = .ok (.iconst 2, 1) := by decide +kernel
theorem dX9_refusalOfSet_16 : decode cX9_refusalOfSet 16 = .ok (.if_icmp .gt 12, 3) := by decide +kernel
theorem dX9_refusalOfSet_19 : decode cX9_refusalOfSet 19 = .ok (.iload_n 2, 1) := by decide +kernel
theorem dX9_refusalOfSet_20 : decode cX9_refusalOfSet 20 = .ok (.iconst 2, 1) := by decide +kernel
theorem dX9_refusalOfSet_21 : decode cX9_refusalOfSet 21 = .ok (.if_icmp .ne 10, 3) := by decide +kernel
theorem dX9_refusalOfSet_24 : decode cX9_refusalOfSet 24 = .ok (.iload_n 1, 1) := by decide +kernel
theorem dX9_refusalOfSet_25 : decode cX9_refusalOfSet 25 = .ok (.ifCond .eq 6, 3) := by decide +kernel
theorem dX9_refusalOfSet_28 : decode cX9_refusalOfSet 28 = .ok (.bipush (-2), 2) := by decide +kernel
theorem dX9_refusalOfSet_30 : decode cX9_refusalOfSet 30 = .ok (.ireturn, 1) := by decide +kernel
theorem dX9_refusalOfSet_31 : decode cX9_refusalOfSet 31 = .ok (.iload_n 2, 1) := by decide +kernel
theorem dX9_refusalOfSet_32 : decode cX9_refusalOfSet 32 = .ok (.ifCond .ne 8, 3) := by decide +kernel
theorem dX9_refusalOfSet_35 : decode cX9_refusalOfSet 35 = .ok (.bipush 9, 2) := by decide +kernel
theorem dX9_refusalOfSet_37 : decode cX9_refusalOfSet 37 = .ok (.goto 13, 3) := by decide +kernel
theorem dX9_refusalOfSet_40 : decode cX9_refusalOfSet 40 = .ok (.iload_n 2, 1) := by decide +kernel
theorem dX9_refusalOfSet_41 : decode cX9_refusalOfSet 41 = .ok (.iconst 1, 1) := by decide +kernel
theorem dX9_refusalOfSet_42 : decode cX9_refusalOfSet 42 = .ok (.if_icmp .ne 7, 3) := by decide +kernel
theorem dX9_refusalOfSet_45 : decode cX9_refusalOfSet 45 = .ok (.iconst 5, 1) := by decide +kernel
theorem dX9_refusalOfSet_46 : decode cX9_refusalOfSet 46 = .ok (.goto 4, 3) := by decide +kernel
theorem dX9_refusalOfSet_49 : decode cX9_refusalOfSet 49 = .ok (.iconst 3, 1) := by decide +kernel
theorem dX9_refusalOfSet_50 : decode cX9_refusalOfSet 50 = .ok (.istore 4, 2) := by decide +kernel
theorem dX9_refusalOfSet_52 : decode cX9_refusalOfSet 52 = .ok (.iload_n 3, 1) := by decide +kernel
theorem dX9_refusalOfSet_53 : decode cX9_refusalOfSet 53 = .ok (.iconst 1, 1) := by decide +kernel
theorem dX9_refusalOfSet_54 : decode cX9_refusalOfSet 54 = .ok (.if_icmp .lt 9, 3) := by decide +kernel
theorem dX9_refusalOfSet_57 : decode cX9_refusalOfSet 57 = .ok (.iload_n 3, 1) := by decide +kernel
theorem dX9_refusalOfSet_58 : decode cX9_refusalOfSet 58 = .ok (.iload 4, 2) := by decide +kernel
theorem dX9_refusalOfSet_60 : decode cX9_refusalOfSet 60 = .ok (.if_icmp .le 8, 3) := by decide +kernel
theorem dX9_refusalOfSet_63 : decode cX9_refusalOfSet 63 = .ok (.bipush (-2), 2) := by decide +kernel
theorem dX9_refusalOfSet_65 : decode cX9_refusalOfSet 65 = .ok (.goto 4, 3) := by decide +kernel
theorem dX9_refusalOfSet_68 : decode cX9_refusalOfSet 68 = .ok (.iconst 0, 1) := by decide +kernel
theorem dX9_refusalOfSet_69 : decode cX9_refusalOfSet 69 = .ok (.ireturn, 1) := by decide +kernel
theorem dX9_lastIfQuick_0 : decode cX9_lastIfQuick 0 = .ok (.aload_n 0, 1) := by decide +kernel
theorem dX9_lastIfQuick_1 : decode cX9_lastIfQuick 1 = .ok (.getfield 16, 3) := by decide +kernel
theorem dX9_lastIfQuick_4 : decode cX9_lastIfQuick 4 = .ok (.aload_n 0, 1) := by decide +kernel
theorem dX9_lastIfQuick_5 : decode cX9_lastIfQuick 5 = .ok (.getfield 10, 3) := by decide +kernel
theorem dX9_lastIfQuick_8 : decode cX9_lastIfQuick 8 = .ok (.invokevirtual 209, 3) := by decide +kernel
theorem dX9_lastIfQuick_11 : decode cX9_lastIfQuick 11 = .ok (.aload_n 0, 1) := by decide +kernel
theorem dX9_lastIfQuick_12 : decode cX9_lastIfQuick 12 = .ok (.getfield 29, 3) := by decide +kernel
theorem dX9_lastIfQuick_15 : decode cX9_lastIfQuick 15 = .ok (.aload_n 0, 1) := by decide +kernel
theorem dX9_lastIfQuick_16 : decode cX9_lastIfQuick 16 = .ok (.getfield 16, 3) := by decide +kernel
theorem dX9_lastIfQuick_19 : decode cX9_lastIfQuick 19 = .ok (.invokevirtual 179, 3) := by decide +kernel
theorem dX9_lastIfQuick_22 : decode cX9_lastIfQuick 22 = .ok (.aload_n 0, 1) := by decide +kernel
theorem dX9_lastIfQuick_23 : decode cX9_lastIfQuick 23 = .ok (.getfield 22, 3) := by decide +kernel
theorem dX9_lastIfQuick_26 : decode cX9_lastIfQuick 26 = .ok (.aload_n 0, 1) := by decide +kernel
theorem dX9_lastIfQuick_27 : decode cX9_lastIfQuick 27 = .ok (.getfield 16, 3) := by decide +kernel
theorem dX9_lastIfQuick_30 : decode cX9_lastIfQuick 30 = .ok (.invokevirtual 94, 3) := by decide +kernel
theorem dX9_lastIfQuick_33 : decode cX9_lastIfQuick 33 = .ok (.ireturn, 1) := by decide +kernel
theorem dX9_slackOf_0 : decode cX9_slackOf 0 = .ok (.aload_n 0, 1) := by decide +kernel
theorem dX9_slackOf_1 : decode cX9_slackOf 1 = .ok (.getfield 22, 3) := by decide +kernel
theorem dX9_slackOf_4 : decode cX9_slackOf 4 = .ok (.aload_n 0, 1) := by decide +kernel
theorem dX9_slackOf_5 : decode cX9_slackOf 5 = .ok (.getfield 10, 3) := by decide +kernel
theorem dX9_slackOf_8 : decode cX9_slackOf 8 = .ok (.invokevirtual 94, 3) := by decide +kernel
theorem dX9_slackOf_11 : decode cX9_slackOf 11 = .ok (.istore_n 2, 1) := by decide +kernel
theorem dX9_slackOf_12 : decode cX9_slackOf 12 = .ok (.aload_n 0, 1) := by decide +kernel
theorem dX9_slackOf_13 : decode cX9_slackOf 13 = .ok (.getfield 16, 3) := by decide +kernel
theorem dX9_slackOf_16 : decode cX9_slackOf 16 = .ok (.aload_n 0, 1) := by decide +kernel
theorem dX9_slackOf_17 : decode cX9_slackOf 17 = .ok (.getfield 10, 3) := by decide +kernel
theorem dX9_slackOf_20 : decode cX9_slackOf 20 = .ok (.invokevirtual 209, 3) := by decide +kernel
theorem dX9_slackOf_23 : decode cX9_slackOf 23 = .ok (.iconst 1, 1) := by decide +kernel
theorem dX9_slackOf_24 : decode cX9_slackOf 24 = .ok (.istore_n 3, 1) := by decide +kernel
theorem dX9_slackOf_25 : decode cX9_slackOf 25 = .ok (.iload_n 3, 1) := by decide +kernel
theorem dX9_slackOf_26 : decode cX9_slackOf 26 = .ok (.bipush 30, 2) := by decide +kernel
theorem dX9_slackOf_28 : decode cX9_slackOf 28 = .ok (.if_icmp .gt 46, 3) := by decide +kernel
theorem dX9_slackOf_31 : decode cX9_slackOf 31 = .ok (.aload_n 0, 1) := by decide +kernel
theorem dX9_slackOf_32 : decode cX9_slackOf 32 = .ok (.getfield 16, 3) := by decide +kernel
theorem dX9_slackOf_35 : decode cX9_slackOf 35 = .ok (.iload_n 1, 1) := by decide +kernel
theorem dX9_slackOf_36 : decode cX9_slackOf 36 = .ok (.aload_n 0, 1) := by decide +kernel
theorem dX9_slackOf_37 : decode cX9_slackOf 37 = .ok (.getfield 10, 3) := by decide +kernel
theorem dX9_slackOf_40 : decode cX9_slackOf 40 = .ok (.iload_n 1, 1) := by decide +kernel
theorem dX9_slackOf_41 : decode cX9_slackOf 41 = .ok (.invokevirtual 120, 3) := by decide +kernel
theorem dX9_slackOf_44 : decode cX9_slackOf 44 = .ok (.iload_n 3, 1) := by decide +kernel
theorem dX9_slackOf_45 : decode cX9_slackOf 45 = .ok (.iadd, 1) := by decide +kernel
theorem dX9_slackOf_46 : decode cX9_slackOf 46 = .ok (.invokevirtual 224, 3) := by decide +kernel
theorem dX9_slackOf_49 : decode cX9_slackOf 49 = .ok (.aload_n 0, 1) := by decide +kernel
theorem dX9_slackOf_50 : decode cX9_slackOf 50 = .ok (.getfield 22, 3) := by decide +kernel
theorem dX9_slackOf_53 : decode cX9_slackOf 53 = .ok (.aload_n 0, 1) := by decide +kernel
theorem dX9_slackOf_54 : decode cX9_slackOf 54 = .ok (.getfield 16, 3) := by decide +kernel
theorem dX9_slackOf_57 : decode cX9_slackOf 57 = .ok (.invokevirtual 94, 3) := by decide +kernel
theorem dX9_slackOf_60 : decode cX9_slackOf 60 = .ok (.iload_n 2, 1) := by decide +kernel
theorem dX9_slackOf_61 : decode cX9_slackOf 61 = .ok (.if_icmp .le 7, 3) := by decide +kernel
theorem dX9_slackOf_64 : decode cX9_slackOf 64 = .ok (.iload_n 3, 1) := by decide +kernel
theorem dX9_slackOf_65 : decode cX9_slackOf 65 = .ok (.iconst 1, 1) := by decide +kernel
theorem dX9_slackOf_66 : decode cX9_slackOf 66 = .ok (.isub, 1) := by decide +kernel
theorem dX9_slackOf_67 : decode cX9_slackOf 67 = .ok (.ireturn, 1) := by decide +kernel
theorem dX9_slackOf_68 : decode cX9_slackOf 68 = .ok (.iinc 3 1, 3) := by decide +kernel
theorem dX9_slackOf_71 : decode cX9_slackOf 71 = .ok (.goto (-46), 3) := by decide +kernel
theorem dX9_slackOf_74 : decode cX9_slackOf 74 = .ok (.bipush 30, 2) := by decide +kernel
theorem dX9_slackOf_76 : decode cX9_slackOf 76 = .ok (.ireturn, 1) := by decide +kernel
theorem dX9_gatheredFrom_0 : decode cX9_gatheredFrom 0 = .ok (.iload_n 1, 1) := by decide +kernel
theorem dX9_gatheredFrom_1 : decode cX9_gatheredFrom 1 = .ok (.ifCond .ne 6, 3) := by decide +kernel
theorem dX9_gatheredFrom_4 : decode cX9_gatheredFrom 4 = .ok (.bipush (-9), 2) := by decide +kernel
theorem dX9_gatheredFrom_6 : decode cX9_gatheredFrom 6 = .ok (.ireturn, 1) := by decide +kernel
theorem dX9_gatheredFrom_7 : decode cX9_gatheredFrom 7 = .ok (.aload_n 0, 1) := by decide +kernel
theorem dX9_gatheredFrom_8 : decode cX9_gatheredFrom 8 = .ok (.getfield 22, 3) := by decide +kernel
theorem dX9_gatheredFrom_11 : decode cX9_gatheredFrom 11 = .ok (.aload_n 0, 1) := by decide +kernel
theorem dX9_gatheredFrom_12 : decode cX9_gatheredFrom 12 = .ok (.getfield 10, 3) := by decide +kernel
theorem dX9_gatheredFrom_15 : decode cX9_gatheredFrom 15 = .ok (.invokevirtual 94, 3) := by decide +kernel
theorem dX9_gatheredFrom_18 : decode cX9_gatheredFrom 18 = .ok (.istore_n 2, 1) := by decide +kernel
theorem dX9_gatheredFrom_19 : decode cX9_gatheredFrom 19 = .ok (.iload_n 2, 1) := by decide +kernel
theorem dX9_gatheredFrom_20 : decode cX9_gatheredFrom 20 = .ok (.aload_n 0, 1) := by decide +kernel
theorem dX9_gatheredFrom_21 : decode cX9_gatheredFrom 21 = .ok (.getfield 22, 3) := by decide +kernel
theorem dX9_gatheredFrom_24 : decode cX9_gatheredFrom 24 = .ok (.iload_n 1, 1) := by decide +kernel
theorem dX9_gatheredFrom_25 : decode cX9_gatheredFrom 25 = .ok (.aload_n 0, 1) := by decide +kernel
theorem dX9_gatheredFrom_26 : decode cX9_gatheredFrom 26 = .ok (.getfield 10, 3) := by decide +kernel
theorem dX9_gatheredFrom_29 : decode cX9_gatheredFrom 29 = .ok (.invokevirtual 101, 3) := by decide +kernel
theorem dX9_gatheredFrom_32 : decode cX9_gatheredFrom 32 = .ok (.iconst 1, 1) := by decide +kernel
theorem dX9_gatheredFrom_33 : decode cX9_gatheredFrom 33 = .ok (.isub, 1) := by decide +kernel
theorem dX9_gatheredFrom_34 : decode cX9_gatheredFrom 34 = .ok (.invokevirtual 151, 3) := by decide +kernel
theorem dX9_gatheredFrom_37 : decode cX9_gatheredFrom 37 = .ok (.isub, 1) := by decide +kernel
theorem dX9_gatheredFrom_38 : decode cX9_gatheredFrom 38 = .ok (.ireturn, 1) := by decide +kernel
theorem dX9_readDoings_0 : decode cX9_readDoings 0 = .ok (.lload_n 2, 1) := by decide +kernel
theorem dX9_readDoings_1 : decode cX9_readDoings 1 = .ok (.lstore 4, 2) := by decide +kernel
theorem dX9_readDoings_3 : decode cX9_readDoings 3 = .ok (.iload_n 1, 1) := by decide +kernel
theorem dX9_readDoings_4 : decode cX9_readDoings 4 = .ok (.iconst 1, 1) := by decide +kernel
theorem dX9_readDoings_5 : decode cX9_readDoings 5 = .ok (.isub, 1) := by decide +kernel
theorem dX9_readDoings_6 : decode cX9_readDoings 6 = .ok (.istore 6, 2) := by decide +kernel
theorem dX9_readDoings_8 : decode cX9_readDoings 8 = .ok (.iload 6, 2) := by decide +kernel
theorem dX9_readDoings_10 : decode cX9_readDoings 10 = .ok (.ifCond .lt 33, 3) := by decide +kernel
theorem dX9_readDoings_13 : decode cX9_readDoings 13 = .ok (.aload_n 0, 1) := by decide +kernel
theorem dX9_readDoings_14 : decode cX9_readDoings 14 = .ok (.getfield 68, 3) := by decide +kernel
theorem dX9_readDoings_17 : decode cX9_readDoings 17 = .ok (.iload 6, 2) := by decide +kernel
theorem dX9_readDoings_19 : decode cX9_readDoings 19 = .ok (.lload 4, 2) := by decide +kernel
theorem dX9_readDoings_21 : decode cX9_readDoings 21 = .ok (.ldc2_w 277, 3) := by decide +kernel
theorem dX9_readDoings_24 : decode cX9_readDoings 24 = .ok (.lrem, 1) := by decide +kernel
theorem dX9_readDoings_25 : decode cX9_readDoings 25 = .ok (.l2i, 1) := by decide +kernel
theorem dX9_readDoings_26 : decode cX9_readDoings 26 = .ok (.invokestatic 279, 3) := by decide +kernel
theorem dX9_readDoings_29 : decode cX9_readDoings 29 = .ok (.lload 4, 2) := by decide +kernel
theorem dX9_readDoings_31 : decode cX9_readDoings 31 = .ok (.ldc2_w 277, 3) := by decide +kernel
theorem dX9_readDoings_34 : decode cX9_readDoings 34 = .ok (.ldiv, 1) := by decide +kernel
theorem dX9_readDoings_35 : decode cX9_readDoings 35 = .ok (.lstore 4, 2) := by decide +kernel
theorem dX9_readDoings_37 : decode cX9_readDoings 37 = .ok (.iinc 6 (-1), 3) := by decide +kernel
theorem dX9_readDoings_40 : decode cX9_readDoings 40 = .ok (.goto (-32), 3) := by decide +kernel
theorem dX9_readDoings_43 : decode cX9_readDoings 43 = .ok (.lload 4, 2) := by decide +kernel
theorem dX9_readDoings_45 : decode cX9_readDoings 45 = .ok (.lconst 0, 1) := by decide +kernel
theorem dX9_readDoings_46 : decode cX9_readDoings 46 = .ok (.lcmp, 1) := by decide +kernel
theorem dX9_readDoings_47 : decode cX9_readDoings 47 = .ok (.ifCond .ne 7, 3) := by decide +kernel
theorem dX9_readDoings_50 : decode cX9_readDoings 50 = .ok (.iconst 1, 1) := by decide +kernel
theorem dX9_readDoings_51 : decode cX9_readDoings 51 = .ok (.goto 4, 3) := by decide +kernel
theorem dX9_readDoings_54 : decode cX9_readDoings 54 = .ok (.iconst 0, 1) := by decide +kernel
theorem dX9_readDoings_55 : decode cX9_readDoings 55 = .ok (.ireturn, 1) := by decide +kernel
theorem dX9_canBe_0 : decode cX9_canBe 0 = .ok (.iload_n 1, 1) := by decide +kernel
theorem dX9_canBe_1 : decode cX9_canBe 1 = .ok (.tableswitch 195 1 7 #[43, 50, 68, 91, 98, 124, 166], 43) := by decide +kernel
theorem dX9_canBe_44 : decode cX9_canBe 44 = .ok (.aload_n 0, 1) := by decide +kernel
theorem dX9_canBe_45 : decode cX9_canBe 45 = .ok (.iload_n 2, 1) := by decide +kernel
theorem dX9_canBe_46 : decode cX9_canBe 46 = .ok (.iload_n 3, 1) := by decide +kernel
theorem dX9_canBe_47 : decode cX9_canBe 47 = .ok (.invokevirtual 283, 3) := by decide +kernel
theorem dX9_canBe_50 : decode cX9_canBe 50 = .ok (.ireturn, 1) := by decide +kernel
theorem dX9_canBe_51 : decode cX9_canBe 51 = .ok (.iload_n 2, 1) := by decide +kernel
theorem dX9_canBe_52 : decode cX9_canBe 52 = .ok (.ifCond .ne 15, 3) := by decide +kernel
theorem dX9_canBe_55 : decode cX9_canBe 55 = .ok (.aload_n 0, 1) := by decide +kernel
theorem dX9_canBe_56 : decode cX9_canBe 56 = .ok (.iload_n 3, 1) := by decide +kernel
theorem dX9_canBe_57 : decode cX9_canBe 57 = .ok (.invokevirtual 286, 3) := by decide +kernel
theorem dX9_canBe_60 : decode cX9_canBe 60 = .ok (.ifCond .eq 7, 3) := by decide +kernel
theorem dX9_canBe_63 : decode cX9_canBe 63 = .ok (.iconst 1, 1) := by decide +kernel
theorem dX9_canBe_64 : decode cX9_canBe 64 = .ok (.goto 4, 3) := by decide +kernel
theorem dX9_canBe_67 : decode cX9_canBe 67 = .ok (.iconst 0, 1) := by decide +kernel
theorem dX9_canBe_68 : decode cX9_canBe 68 = .ok (.ireturn, 1) := by decide +kernel
theorem dX9_canBe_69 : decode cX9_canBe 69 = .ok (.iload_n 2, 1) := by decide +kernel
theorem dX9_canBe_70 : decode cX9_canBe 70 = .ok (.ifCond .ne 7, 3) := by decide +kernel
theorem dX9_canBe_73 : decode cX9_canBe 73 = .ok (.iload_n 3, 1) := by decide +kernel
theorem dX9_canBe_74 : decode cX9_canBe 74 = .ok (.ifCond .eq 5, 3) := by decide +kernel
theorem dX9_canBe_77 : decode cX9_canBe 77 = .ok (.iconst 0, 1) := by decide +kernel
theorem dX9_canBe_78 : decode cX9_canBe 78 = .ok (.ireturn, 1) := by decide +kernel
theorem dX9_canBe_79 : decode cX9_canBe 79 = .ok (.aload_n 0, 1) := by decide +kernel
theorem dX9_canBe_80 : decode cX9_canBe 80 = .ok (.getfield 29, 3) := by decide +kernel
theorem dX9_canBe_83 : decode cX9_canBe 83 = .ok (.aload_n 0, 1) := by decide +kernel
theorem dX9_canBe_84 : decode cX9_canBe 84 = .ok (.getfield 16, 3) := by decide +kernel
theorem dX9_canBe_87 : decode cX9_canBe 87 = .ok (.invokevirtual 179, 3) := by decide +kernel
theorem dX9_canBe_90 : decode cX9_canBe 90 = .ok (.iconst 1, 1) := by decide +kernel
theorem dX9_canBe_91 : decode cX9_canBe 91 = .ok (.ireturn, 1) := by decide +kernel
theorem dX9_canBe_92 : decode cX9_canBe 92 = .ok (.aload_n 0, 1) := by decide +kernel
theorem dX9_canBe_93 : decode cX9_canBe 93 = .ok (.iload_n 2, 1) := by decide +kernel
theorem dX9_canBe_94 : decode cX9_canBe 94 = .ok (.iload_n 3, 1) := by decide +kernel
theorem dX9_canBe_95 : decode cX9_canBe 95 = .ok (.invokevirtual 289, 3) := by decide +kernel
theorem dX9_canBe_98 : decode cX9_canBe 98 = .ok (.ireturn, 1) := by decide +kernel
theorem dX9_canBe_99 : decode cX9_canBe 99 = .ok (.aload_n 0, 1) := by decide +kernel
theorem dX9_canBe_100 : decode cX9_canBe 100 = .ok (.getfield 22, 3) := by decide +kernel
theorem dX9_canBe_103 : decode cX9_canBe 103 = .ok (.aload_n 0, 1) := by decide +kernel
theorem dX9_canBe_104 : decode cX9_canBe 104 = .ok (.getfield 16, 3) := by decide +kernel
theorem dX9_canBe_107 : decode cX9_canBe 107 = .ok (.invokevirtual 94, 3) := by decide +kernel
theorem dX9_canBe_110 : decode cX9_canBe 110 = .ok (.bipush 10, 2) := by decide +kernel
theorem dX9_canBe_112 : decode cX9_canBe 112 = .ok (.iload_n 2, 1) := by decide +kernel
theorem dX9_canBe_113 : decode cX9_canBe 113 = .ok (.imul, 1) := by decide +kernel
theorem dX9_canBe_114 : decode cX9_canBe 114 = .ok (.iload_n 3, 1) := by decide +kernel
theorem dX9_canBe_115 : decode cX9_canBe 115 = .ok (.iadd, 1) := by decide +kernel
theorem dX9_canBe_116 : decode cX9_canBe 116 = .ok (.if_icmp .ne 7, 3) := by decide +kernel
theorem dX9_canBe_119 : decode cX9_canBe 119 = .ok (.iconst 1, 1) := by decide +kernel
theorem dX9_canBe_120 : decode cX9_canBe 120 = .ok (.goto 4, 3) := by decide +kernel
theorem dX9_canBe_123 : decode cX9_canBe 123 = .ok (.iconst 0, 1) := by decide +kernel
theorem dX9_canBe_124 : decode cX9_canBe 124 = .ok (.ireturn, 1) := by decide +kernel
theorem dX9_canBe_125 : decode cX9_canBe 125 = .ok (.aload_n 0, 1) := by decide +kernel
theorem dX9_canBe_126 : decode cX9_canBe 126 = .ok (.getfield 22, 3) := by decide +kernel
theorem dX9_canBe_129 : decode cX9_canBe 129 = .ok (.aload_n 0, 1) := by decide +kernel
theorem dX9_canBe_130 : decode cX9_canBe 130 = .ok (.getfield 16, 3) := by decide +kernel
theorem dX9_canBe_133 : decode cX9_canBe 133 = .ok (.invokevirtual 94, 3) := by decide +kernel
theorem dX9_canBe_136 : decode cX9_canBe 136 = .ok (.pop, 1) := by decide +kernel
theorem dX9_canBe_137 : decode cX9_canBe 137 = .ok (.aload_n 0, 1) := by decide +kernel
theorem dX9_canBe_138 : decode cX9_canBe 138 = .ok (.getfield 16, 3) := by decide +kernel
theorem dX9_canBe_141 : decode cX9_canBe 141 = .ok (.iload_n 2, 1) := by decide +kernel
theorem dX9_canBe_142 : decode cX9_canBe 142 = .ok (.invokevirtual 117, 3) := by decide +kernel
theorem dX9_canBe_145 : decode cX9_canBe 145 = .ok (.ifCond .eq 20, 3) := by decide +kernel
theorem dX9_canBe_148 : decode cX9_canBe 148 = .ok (.aload_n 0, 1) := by decide +kernel
theorem dX9_canBe_149 : decode cX9_canBe 149 = .ok (.getfield 22, 3) := by decide +kernel
theorem dX9_canBe_152 : decode cX9_canBe 152 = .ok (.iload_n 2, 1) := by decide +kernel
theorem dX9_canBe_153 : decode cX9_canBe 153 = .ok (.iconst 0, 1) := by decide +kernel
theorem dX9_canBe_154 : decode cX9_canBe 154 = .ok (.invokevirtual 151, 3) := by decide +kernel
theorem dX9_canBe_157 : decode cX9_canBe 157 = .ok (.iload_n 3, 1) := by decide +kernel
theorem dX9_canBe_158 : decode cX9_canBe 158 = .ok (.if_icmp .gt 7, 3) := by decide +kernel
theorem dX9_canBe_161 : decode cX9_canBe 161 = .ok (.iconst 1, 1) := by decide +kernel
theorem dX9_canBe_162 : decode cX9_canBe 162 = .ok (.goto 4, 3) := by decide +kernel
theorem dX9_canBe_165 : decode cX9_canBe 165 = .ok (.iconst 0, 1) := by decide +kernel
theorem dX9_canBe_166 : decode cX9_canBe 166 = .ok (.ireturn, 1) := by decide +kernel
theorem dX9_canBe_167 : decode cX9_canBe 167 = .ok (.aload_n 0, 1) := by decide +kernel
theorem dX9_canBe_168 : decode cX9_canBe 168 = .ok (.getfield 16, 3) := by decide +kernel
theorem dX9_canBe_171 : decode cX9_canBe 171 = .ok (.iload_n 2, 1) := by decide +kernel
theorem dX9_canBe_172 : decode cX9_canBe 172 = .ok (.invokevirtual 117, 3) := by decide +kernel
theorem dX9_canBe_175 : decode cX9_canBe 175 = .ok (.ifCond .eq 19, 3) := by decide +kernel
theorem dX9_canBe_178 : decode cX9_canBe 178 = .ok (.aload_n 0, 1) := by decide +kernel
theorem dX9_canBe_179 : decode cX9_canBe 179 = .ok (.getfield 16, 3) := by decide +kernel
theorem dX9_canBe_182 : decode cX9_canBe 182 = .ok (.iload_n 2, 1) := by decide +kernel
theorem dX9_canBe_183 : decode cX9_canBe 183 = .ok (.invokevirtual 133, 3) := by decide +kernel
theorem dX9_canBe_186 : decode cX9_canBe 186 = .ok (.iload_n 3, 1) := by decide +kernel
theorem dX9_canBe_187 : decode cX9_canBe 187 = .ok (.if_icmp .ne 7, 3) := by decide +kernel
theorem dX9_canBe_190 : decode cX9_canBe 190 = .ok (.iconst 1, 1) := by decide +kernel
theorem dX9_canBe_191 : decode cX9_canBe 191 = .ok (.goto 4, 3) := by decide +kernel
theorem dX9_canBe_194 : decode cX9_canBe 194 = .ok (.iconst 0, 1) := by decide +kernel
theorem dX9_canBe_195 : decode cX9_canBe 195 = .ok (.ireturn, 1) := by decide +kernel
theorem dX9_canBe_196 : decode cX9_canBe 196 = .ok (.iconst 0, 1) := by decide +kernel
theorem dX9_canBe_197 : decode cX9_canBe 197 = .ok (.ireturn, 1) := by decide +kernel
theorem dX9_canBeMoved_0 : decode cX9_canBeMoved 0 = .ok (.aload_n 0, 1) := by decide +kernel
theorem dX9_canBeMoved_1 : decode cX9_canBeMoved 1 = .ok (.getfield 16, 3) := by decide +kernel
theorem dX9_canBeMoved_4 : decode cX9_canBeMoved 4 = .ok (.iload_n 1, 1) := by decide +kernel
theorem dX9_canBeMoved_5 : decode cX9_canBeMoved 5 = .ok (.iload_n 2, 1) := by decide +kernel
theorem dX9_canBeMoved_6 : decode cX9_canBeMoved 6 = .ok (.invokestatic 160, 3) := by decide +kernel
theorem dX9_canBeMoved_9 : decode cX9_canBeMoved 9 = .ok (.ifCond .eq 5, 3) := by decide +kernel
theorem dX9_canBeMoved_12 : decode cX9_canBeMoved 12 = .ok (.iconst 0, 1) := by decide +kernel
theorem dX9_canBeMoved_13 : decode cX9_canBeMoved 13 = .ok (.ireturn, 1) := by decide +kernel
theorem dX9_canBeMoved_14 : decode cX9_canBeMoved 14 = .ok (.aload_n 0, 1) := by decide +kernel
theorem dX9_canBeMoved_15 : decode cX9_canBeMoved 15 = .ok (.getfield 16, 3) := by decide +kernel
theorem dX9_canBeMoved_18 : decode cX9_canBeMoved 18 = .ok (.iload_n 1, 1) := by decide +kernel
theorem dX9_canBeMoved_19 : decode cX9_canBeMoved 19 = .ok (.iload_n 2, 1) := by decide +kernel
theorem dX9_canBeMoved_20 : decode cX9_canBeMoved 20 = .ok (.invokevirtual 167, 3) := by decide +kernel
theorem dX9_canBeMoved_23 : decode cX9_canBeMoved 23 = .ok (.iconst 1, 1) := by decide +kernel
theorem dX9_canBeMoved_24 : decode cX9_canBeMoved 24 = .ok (.ireturn, 1) := by decide +kernel
theorem dX9_canBeChanged_0 : decode cX9_canBeChanged 0 = .ok (.aload_n 0, 1) := by decide +kernel
theorem dX9_canBeChanged_1 : decode cX9_canBeChanged 1 = .ok (.getfield 16, 3) := by decide +kernel
theorem dX9_canBeChanged_4 : decode cX9_canBeChanged 4 = .ok (.iload_n 1, 1) := by decide +kernel
theorem dX9_canBeChanged_5 : decode cX9_canBeChanged 5 = .ok (.invokestatic 171, 3) := by decide +kernel
theorem dX9_canBeChanged_8 : decode cX9_canBeChanged 8 = .ok (.ifCond .eq 5, 3) := by decide +kernel
theorem dX9_canBeChanged_11 : decode cX9_canBeChanged 11 = .ok (.iconst 0, 1) := by decide +kernel
theorem dX9_canBeChanged_12 : decode cX9_canBeChanged 12 = .ok (.ireturn, 1) := by decide +kernel
theorem dX9_canBeChanged_13 : decode cX9_canBeChanged 13 = .ok (.aload_n 0, 1) := by decide +kernel
theorem dX9_canBeChanged_14 : decode cX9_canBeChanged 14 = .ok (.getfield 16, 3) := by decide +kernel
theorem dX9_canBeChanged_17 : decode cX9_canBeChanged 17 = .ok (.iload_n 1, 1) := by decide +kernel
theorem dX9_canBeChanged_18 : decode cX9_canBeChanged 18 = .ok (.invokevirtual 175, 3) := by decide +kernel
theorem dX9_canBeChanged_21 : decode cX9_canBeChanged 21 = .ok (.iconst 1, 1) := by decide +kernel
theorem dX9_canBeChanged_22 : decode cX9_canBeChanged 22 = .ok (.ireturn, 1) := by decide +kernel
theorem dX9_canBeDelayed_0 : decode cX9_canBeDelayed 0 = .ok (.aload_n 0, 1) := by decide +kernel
theorem dX9_canBeDelayed_1 : decode cX9_canBeDelayed 1 = .ok (.getfield 16, 3) := by decide +kernel
theorem dX9_canBeDelayed_4 : decode cX9_canBeDelayed 4 = .ok (.iload_n 1, 1) := by decide +kernel
theorem dX9_canBeDelayed_5 : decode cX9_canBeDelayed 5 = .ok (.iconst 0, 1) := by decide +kernel
theorem dX9_canBeDelayed_6 : decode cX9_canBeDelayed 6 = .ok (.iload_n 2, 1) := by decide +kernel
theorem dX9_canBeDelayed_7 : decode cX9_canBeDelayed 7 = .ok (.invokestatic 182, 3) := by decide +kernel
theorem dX9_canBeDelayed_10 : decode cX9_canBeDelayed 10 = .ok (.ifCond .eq 5, 3) := by decide +kernel
theorem dX9_canBeDelayed_13 : decode cX9_canBeDelayed 13 = .ok (.iconst 0, 1) := by decide +kernel
theorem dX9_canBeDelayed_14 : decode cX9_canBeDelayed 14 = .ok (.ireturn, 1) := by decide +kernel
theorem dX9_canBeDelayed_15 : decode cX9_canBeDelayed 15 = .ok (.aload_n 0, 1) := by decide +kernel
theorem dX9_canBeDelayed_16 : decode cX9_canBeDelayed 16 = .ok (.getfield 16, 3) := by decide +kernel
theorem dX9_canBeDelayed_19 : decode cX9_canBeDelayed 19 = .ok (.iload_n 1, 1) := by decide +kernel
theorem dX9_canBeDelayed_20 : decode cX9_canBeDelayed 20 = .ok (.iload_n 2, 1) := by decide +kernel
theorem dX9_canBeDelayed_21 : decode cX9_canBeDelayed 21 = .ok (.invokevirtual 224, 3) := by decide +kernel
theorem dX9_canBeDelayed_24 : decode cX9_canBeDelayed 24 = .ok (.iconst 1, 1) := by decide +kernel
theorem dX9_canBeDelayed_25 : decode cX9_canBeDelayed 25 = .ok (.ireturn, 1) := by decide +kernel
theorem dX9_peopleWhoseDelayMayCount_0 : decode cX9_peopleWhoseDelayMayCount 0 = .ok (.iconst 0, 1) := by decide +kernel
theorem dX9_peopleWhoseDelayMayCount_1 : decode cX9_peopleWhoseDelayMayCount 1 = .ok (.istore_n 1, 1) := by decide +kernel
theorem dX9_peopleWhoseDelayMayCount_2 : decode cX9_peopleWhoseDelayMayCount 2 = .ok (.iconst 0, 1) := by decide +kernel
theorem dX9_peopleWhoseDelayMayCount_3 : decode cX9_peopleWhoseDelayMayCount 3 = .ok (.istore_n 2, 1) := by decide +kernel
theorem dX9_peopleWhoseDelayMayCount_4 : decode cX9_peopleWhoseDelayMayCount 4 = .ok (.iload_n 2, 1) := by decide +kernel
theorem dX9_peopleWhoseDelayMayCount_5 : decode cX9_peopleWhoseDelayMayCount 5 = .ok (.aload_n 0, 1) := by decide +kernel
theorem dX9_peopleWhoseDelayMayCount_6 : decode cX9_peopleWhoseDelayMayCount 6 = .ok (.getfield 10, 3) := by decide +kernel
theorem dX9_peopleWhoseDelayMayCount_9 : decode cX9_peopleWhoseDelayMayCount 9 = .ok (.invokevirtual 98, 3) := by decide +kernel
theorem dX9_peopleWhoseDelayMayCount_12 : decode cX9_peopleWhoseDelayMayCount 12 = .ok (.if_icmp .ge 38, 3) := by decide +kernel
theorem dX9_peopleWhoseDelayMayCount_15 : decode cX9_peopleWhoseDelayMayCount 15 = .ok (.aload_n 0, 1) := by decide +kernel
theorem dX9_peopleWhoseDelayMayCount_16 : decode cX9_peopleWhoseDelayMayCount 16 = .ok (.getfield 10, 3) := by decide +kernel
theorem dX9_peopleWhoseDelayMayCount_19 : decode cX9_peopleWhoseDelayMayCount 19 = .ok (.iload_n 2, 1) := by decide +kernel
theorem dX9_peopleWhoseDelayMayCount_20 : decode cX9_peopleWhoseDelayMayCount 20 = .ok (.invokevirtual 120, 3) := by decide +kernel
theorem dX9_peopleWhoseDelayMayCount_23 : decode cX9_peopleWhoseDelayMayCount 23 = .ok (.iconst 1, 1) := by decide +kernel
theorem dX9_peopleWhoseDelayMayCount_24 : decode cX9_peopleWhoseDelayMayCount 24 = .ok (.if_icmp .le 20, 3) := by decide +kernel
theorem dX9_peopleWhoseDelayMayCount_27 : decode cX9_peopleWhoseDelayMayCount 27 = .ok (.aload_n 0, 1) := by decide +kernel
theorem dX9_peopleWhoseDelayMayCount_28 : decode cX9_peopleWhoseDelayMayCount 28 = .ok (.getfield 10, 3) := by decide +kernel
theorem dX9_peopleWhoseDelayMayCount_31 : decode cX9_peopleWhoseDelayMayCount 31 = .ok (.iload_n 2, 1) := by decide +kernel
theorem dX9_peopleWhoseDelayMayCount_32 : decode cX9_peopleWhoseDelayMayCount 32 = .ok (.invokevirtual 133, 3) := by decide +kernel
theorem dX9_peopleWhoseDelayMayCount_35 : decode cX9_peopleWhoseDelayMayCount 35 = .ok (.ifCond .le 9, 3) := by decide +kernel
theorem dX9_peopleWhoseDelayMayCount_38 : decode cX9_peopleWhoseDelayMayCount 38 = .ok (.iload_n 1, 1) := by decide +kernel
theorem dX9_peopleWhoseDelayMayCount_39 : decode cX9_peopleWhoseDelayMayCount 39 = .ok (.iconst 1, 1) := by decide +kernel
theorem dX9_peopleWhoseDelayMayCount_40 : decode cX9_peopleWhoseDelayMayCount 40 = .ok (.iload_n 2, 1) := by decide +kernel
theorem dX9_peopleWhoseDelayMayCount_41 : decode cX9_peopleWhoseDelayMayCount 41 = .ok (.ishl, 1) := by decide +kernel
theorem dX9_peopleWhoseDelayMayCount_42 : decode cX9_peopleWhoseDelayMayCount 42 = .ok (.ior, 1) := by decide +kernel
theorem dX9_peopleWhoseDelayMayCount_43 : decode cX9_peopleWhoseDelayMayCount 43 = .ok (.istore_n 1, 1) := by decide +kernel
theorem dX9_peopleWhoseDelayMayCount_44 : decode cX9_peopleWhoseDelayMayCount 44 = .ok (.iinc 2 1, 3) := by decide +kernel
theorem dX9_peopleWhoseDelayMayCount_47 : decode cX9_peopleWhoseDelayMayCount 47 = .ok (.goto (-43), 3) := by decide +kernel
theorem dX9_peopleWhoseDelayMayCount_50 : decode cX9_peopleWhoseDelayMayCount 50 = .ok (.iload_n 1, 1) := by decide +kernel
theorem dX9_peopleWhoseDelayMayCount_51 : decode cX9_peopleWhoseDelayMayCount 51 = .ok (.ireturn, 1) := by decide +kernel
theorem dX9_lastWhenCome_0 : decode cX9_lastWhenCome 0 = .ok (.iconst 0, 1) := by decide +kernel
theorem dX9_lastWhenCome_1 : decode cX9_lastWhenCome 1 = .ok (.istore_n 2, 1) := by decide +kernel
theorem dX9_lastWhenCome_2 : decode cX9_lastWhenCome 2 = .ok (.iload_n 2, 1) := by decide +kernel
theorem dX9_lastWhenCome_3 : decode cX9_lastWhenCome 3 = .ok (.aload_n 0, 1) := by decide +kernel
theorem dX9_lastWhenCome_4 : decode cX9_lastWhenCome 4 = .ok (.getfield 10, 3) := by decide +kernel
theorem dX9_lastWhenCome_7 : decode cX9_lastWhenCome 7 = .ok (.invokevirtual 98, 3) := by decide +kernel
theorem dX9_lastWhenCome_10 : decode cX9_lastWhenCome 10 = .ok (.if_icmp .ge 37, 3) := by decide +kernel
theorem dX9_lastWhenCome_13 : decode cX9_lastWhenCome 13 = .ok (.aload_n 0, 1) := by decide +kernel
theorem dX9_lastWhenCome_14 : decode cX9_lastWhenCome 14 = .ok (.getfield 16, 3) := by decide +kernel
theorem dX9_lastWhenCome_17 : decode cX9_lastWhenCome 17 = .ok (.iload_n 2, 1) := by decide +kernel
theorem dX9_lastWhenCome_18 : decode cX9_lastWhenCome 18 = .ok (.iload_n 1, 1) := by decide +kernel
theorem dX9_lastWhenCome_19 : decode cX9_lastWhenCome 19 = .ok (.iload_n 2, 1) := by decide +kernel
theorem dX9_lastWhenCome_20 : decode cX9_lastWhenCome 20 = .ok (.ishr, 1) := by decide +kernel
theorem dX9_lastWhenCome_21 : decode cX9_lastWhenCome 21 = .ok (.iconst 1, 1) := by decide +kernel
theorem dX9_lastWhenCome_22 : decode cX9_lastWhenCome 22 = .ok (.iand, 1) := by decide +kernel
theorem dX9_lastWhenCome_23 : decode cX9_lastWhenCome 23 = .ok (.ifCond .eq 14, 3) := by decide +kernel
theorem dX9_lastWhenCome_26 : decode cX9_lastWhenCome 26 = .ok (.aload_n 0, 1) := by decide +kernel
theorem dX9_lastWhenCome_27 : decode cX9_lastWhenCome 27 = .ok (.getfield 10, 3) := by decide +kernel
theorem dX9_lastWhenCome_30 : decode cX9_lastWhenCome 30 = .ok (.iload_n 2, 1) := by decide +kernel
theorem dX9_lastWhenCome_31 : decode cX9_lastWhenCome 31 = .ok (.invokevirtual 120, 3) := by decide +kernel
theorem dX9_lastWhenCome_34 : decode cX9_lastWhenCome 34 = .ok (.goto 4, 3) := by decide +kernel
theorem dX9_lastWhenCome_37 : decode cX9_lastWhenCome 37 = .ok (.iconst 1, 1) := by decide +kernel
theorem dX9_lastWhenCome_38 : decode cX9_lastWhenCome 38 = .ok (.invokevirtual 224, 3) := by decide +kernel
theorem dX9_lastWhenCome_41 : decode cX9_lastWhenCome 41 = .ok (.iinc 2 1, 3) := by decide +kernel
theorem dX9_lastWhenCome_44 : decode cX9_lastWhenCome 44 = .ok (.goto (-42), 3) := by decide +kernel
theorem dX9_lastWhenCome_47 : decode cX9_lastWhenCome 47 = .ok (.aload_n 0, 1) := by decide +kernel
theorem dX9_lastWhenCome_48 : decode cX9_lastWhenCome 48 = .ok (.getfield 22, 3) := by decide +kernel
theorem dX9_lastWhenCome_51 : decode cX9_lastWhenCome 51 = .ok (.aload_n 0, 1) := by decide +kernel
theorem dX9_lastWhenCome_52 : decode cX9_lastWhenCome 52 = .ok (.getfield 16, 3) := by decide +kernel
theorem dX9_lastWhenCome_55 : decode cX9_lastWhenCome 55 = .ok (.invokevirtual 94, 3) := by decide +kernel
theorem dX9_lastWhenCome_58 : decode cX9_lastWhenCome 58 = .ok (.ireturn, 1) := by decide +kernel
theorem dX9_chancesFrom_0 : decode cX9_chancesFrom 0 = .ok (.iload_n 1, 1) := by decide +kernel
theorem dX9_chancesFrom_1 : decode cX9_chancesFrom 1 = .ok (.bipush 8, 2) := by decide +kernel
theorem dX9_chancesFrom_3 : decode cX9_chancesFrom 3 = .ok (.if_icmp .ge 14, 3) := by decide +kernel
theorem dX9_chancesFrom_6 : decode cX9_chancesFrom 6 = .ok (.aload_n 0, 1) := by decide +kernel
theorem dX9_chancesFrom_7 : decode cX9_chancesFrom 7 = .ok (.getfield 10, 3) := by decide +kernel
theorem dX9_chancesFrom_10 : decode cX9_chancesFrom 10 = .ok (.iload_n 1, 1) := by decide +kernel
theorem dX9_chancesFrom_11 : decode cX9_chancesFrom 11 = .ok (.invokevirtual 142, 3) := by decide +kernel
theorem dX9_chancesFrom_14 : decode cX9_chancesFrom 14 = .ok (.ifCond .ne 17, 3) := by decide +kernel
theorem dX9_chancesFrom_17 : decode cX9_chancesFrom 17 = .ok (.iload_n 2, 1) := by decide +kernel
theorem dX9_chancesFrom_18 : decode cX9_chancesFrom 18 = .ok (.invokestatic 238, 3) := by decide +kernel
theorem dX9_chancesFrom_21 : decode cX9_chancesFrom 21 = .ok (.iload_n 3, 1) := by decide +kernel
theorem dX9_chancesFrom_22 : decode cX9_chancesFrom 22 = .ok (.if_icmp .lt 7, 3) := by decide +kernel
theorem dX9_chancesFrom_25 : decode cX9_chancesFrom 25 = .ok (.lconst 1, 1) := by decide +kernel
theorem dX9_chancesFrom_26 : decode cX9_chancesFrom 26 = .ok (.goto 4, 3) := by decide +kernel
theorem dX9_chancesFrom_29 : decode cX9_chancesFrom 29 = .ok (.lconst 0, 1) := by decide +kernel
theorem dX9_chancesFrom_30 : decode cX9_chancesFrom 30 = .ok (.lreturn, 1) := by decide +kernel
theorem dX9_chancesFrom_31 : decode cX9_chancesFrom 31 = .ok (.aload_n 0, 1) := by decide +kernel
theorem dX9_chancesFrom_32 : decode cX9_chancesFrom 32 = .ok (.getfield 10, 3) := by decide +kernel
theorem dX9_chancesFrom_35 : decode cX9_chancesFrom 35 = .ok (.iload_n 1, 1) := by decide +kernel
theorem dX9_chancesFrom_36 : decode cX9_chancesFrom 36 = .ok (.invokevirtual 145, 3) := by decide +kernel
theorem dX9_chancesFrom_39 : decode cX9_chancesFrom 39 = .ok (.istore 5, 2) := by decide +kernel
theorem dX9_chancesFrom_41 : decode cX9_chancesFrom 41 = .ok (.aload_n 0, 1) := by decide +kernel
theorem dX9_chancesFrom_42 : decode cX9_chancesFrom 42 = .ok (.iload_n 1, 1) := by decide +kernel
theorem dX9_chancesFrom_43 : decode cX9_chancesFrom 43 = .ok (.iconst 1, 1) := by decide +kernel
theorem dX9_chancesFrom_44 : decode cX9_chancesFrom 44 = .ok (.iadd, 1) := by decide +kernel
theorem dX9_chancesFrom_45 : decode cX9_chancesFrom 45 = .ok (.iload_n 2, 1) := by decide +kernel
theorem dX9_chancesFrom_46 : decode cX9_chancesFrom 46 = .ok (.iload_n 3, 1) := by decide +kernel
theorem dX9_chancesFrom_47 : decode cX9_chancesFrom 47 = .ok (.iload 4, 2) := by decide +kernel
theorem dX9_chancesFrom_49 : decode cX9_chancesFrom 49 = .ok (.invokevirtual 251, 3) := by decide +kernel
theorem dX9_chancesFrom_52 : decode cX9_chancesFrom 52 = .ok (.lstore 6, 2) := by decide +kernel
theorem dX9_chancesFrom_54 : decode cX9_chancesFrom 54 = .ok (.iload_n 2, 1) := by decide +kernel
theorem dX9_chancesFrom_55 : decode cX9_chancesFrom 55 = .ok (.aload_n 0, 1) := by decide +kernel
theorem dX9_chancesFrom_56 : decode cX9_chancesFrom 56 = .ok (.getfield 10, 3) := by decide +kernel
theorem dX9_chancesFrom_59 : decode cX9_chancesFrom 59 = .ok (.iload 5, 2) := by decide +kernel
theorem dX9_chancesFrom_61 : decode cX9_chancesFrom 61 = .ok (.invokevirtual 127, 3) := by decide +kernel
theorem dX9_chancesFrom_64 : decode cX9_chancesFrom 64 = .ok (.ishr, 1) := by decide +kernel
theorem dX9_chancesFrom_65 : decode cX9_chancesFrom 65 = .ok (.iconst 1, 1) := by decide +kernel
theorem dX9_chancesFrom_66 : decode cX9_chancesFrom 66 = .ok (.iand, 1) := by decide +kernel
theorem dX9_chancesFrom_67 : decode cX9_chancesFrom 67 = .ok (.ifCond .ne 10, 3) := by decide +kernel
theorem dX9_chancesFrom_70 : decode cX9_chancesFrom 70 = .ok (.ldc2_w 249, 3) := by decide +kernel
theorem dX9_chancesFrom_73 : decode cX9_chancesFrom 73 = .ok (.lload 6, 2) := by decide +kernel
theorem dX9_chancesFrom_75 : decode cX9_chancesFrom 75 = .ok (.lmul, 1) := by decide +kernel
theorem dX9_chancesFrom_76 : decode cX9_chancesFrom 76 = .ok (.lreturn, 1) := by decide +kernel
theorem dX9_chancesFrom_77 : decode cX9_chancesFrom 77 = .ok (.aload_n 0, 1) := by decide +kernel
theorem dX9_chancesFrom_78 : decode cX9_chancesFrom 78 = .ok (.iload_n 1, 1) := by decide +kernel
theorem dX9_chancesFrom_79 : decode cX9_chancesFrom 79 = .ok (.iconst 1, 1) := by decide +kernel
theorem dX9_chancesFrom_80 : decode cX9_chancesFrom 80 = .ok (.iadd, 1) := by decide +kernel
theorem dX9_chancesFrom_81 : decode cX9_chancesFrom 81 = .ok (.iload_n 2, 1) := by decide +kernel
theorem dX9_chancesFrom_82 : decode cX9_chancesFrom 82 = .ok (.iconst 1, 1) := by decide +kernel
theorem dX9_chancesFrom_83 : decode cX9_chancesFrom 83 = .ok (.iload 5, 2) := by decide +kernel
theorem dX9_chancesFrom_85 : decode cX9_chancesFrom 85 = .ok (.ishl, 1) := by decide +kernel
theorem dX9_chancesFrom_86 : decode cX9_chancesFrom 86 = .ok (.ior, 1) := by decide +kernel
theorem dX9_chancesFrom_87 : decode cX9_chancesFrom 87 = .ok (.iload_n 3, 1) := by decide +kernel
theorem dX9_chancesFrom_88 : decode cX9_chancesFrom 88 = .ok (.iload 4, 2) := by decide +kernel
theorem dX9_chancesFrom_90 : decode cX9_chancesFrom 90 = .ok (.invokevirtual 251, 3) := by decide +kernel
theorem dX9_chancesFrom_93 : decode cX9_chancesFrom 93 = .ok (.lstore 8, 2) := by decide +kernel
theorem dX9_chancesFrom_95 : decode cX9_chancesFrom 95 = .ok (.iload 4, 2) := by decide +kernel
theorem dX9_chancesFrom_97 : decode cX9_chancesFrom 97 = .ok (.i2l, 1) := by decide +kernel
theorem dX9_chancesFrom_98 : decode cX9_chancesFrom 98 = .ok (.lload 6, 2) := by decide +kernel
theorem dX9_chancesFrom_100 : decode cX9_chancesFrom 100 = .ok (.lmul, 1) := by decide +kernel
theorem dX9_chancesFrom_101 : decode cX9_chancesFrom 101 = .ok (.bipush 10, 2) := by decide +kernel
theorem dX9_chancesFrom_103 : decode cX9_chancesFrom 103 = .ok (.iload 4, 2) := by decide +kernel
theorem dX9_chancesFrom_105 : decode cX9_chancesFrom 105 = .ok (.isub, 1) := by decide +kernel
theorem dX9_chancesFrom_106 : decode cX9_chancesFrom 106 = .ok (.i2l, 1) := by decide +kernel
theorem dX9_chancesFrom_107 : decode cX9_chancesFrom 107 = .ok (.lload 8, 2) := by decide +kernel
theorem dX9_chancesFrom_109 : decode cX9_chancesFrom 109 = .ok (.lmul, 1) := by decide +kernel
theorem dX9_chancesFrom_110 : decode cX9_chancesFrom 110 = .ok (.ladd, 1) := by decide +kernel
theorem dX9_chancesFrom_111 : decode cX9_chancesFrom 111 = .ok (.lreturn, 1) := by decide +kernel
theorem dX9_drawDelays_0 : decode cX9_drawDelays 0 = .ok (.iload_n 1, 1) := by decide +kernel
theorem dX9_drawDelays_1 : decode cX9_drawDelays 1 = .ok (.istore_n 2, 1) := by decide +kernel
theorem dX9_drawDelays_2 : decode cX9_drawDelays 2 = .ok (.iconst 0, 1) := by decide +kernel
theorem dX9_drawDelays_3 : decode cX9_drawDelays 3 = .ok (.istore_n 3, 1) := by decide +kernel
theorem dX9_drawDelays_4 : decode cX9_drawDelays 4 = .ok (.iload_n 3, 1) := by decide +kernel
theorem dX9_drawDelays_5 : decode cX9_drawDelays 5 = .ok (.aload_n 0, 1) := by decide +kernel
theorem dX9_drawDelays_6 : decode cX9_drawDelays 6 = .ok (.getfield 16, 3) := by decide +kernel
theorem dX9_drawDelays_9 : decode cX9_drawDelays 9 = .ok (.invokevirtual 98, 3) := by decide +kernel
theorem dX9_drawDelays_12 : decode cX9_drawDelays 12 = .ok (.if_icmp .ge 28, 3) := by decide +kernel
theorem dX9_drawDelays_15 : decode cX9_drawDelays 15 = .ok (.aload_n 0, 1) := by decide +kernel
theorem dX9_drawDelays_16 : decode cX9_drawDelays 16 = .ok (.getfield 16, 3) := by decide +kernel
theorem dX9_drawDelays_19 : decode cX9_drawDelays 19 = .ok (.iload_n 3, 1) := by decide +kernel
theorem dX9_drawDelays_20 : decode cX9_drawDelays 20 = .ok (.iconst 1, 1) := by decide +kernel
theorem dX9_drawDelays_21 : decode cX9_drawDelays 21 = .ok (.iload_n 2, 1) := by decide +kernel
theorem dX9_drawDelays_22 : decode cX9_drawDelays 22 = .ok (.bipush 9, 2) := by decide +kernel
theorem dX9_drawDelays_24 : decode cX9_drawDelays 24 = .ok (.irem, 1) := by decide +kernel
theorem dX9_drawDelays_25 : decode cX9_drawDelays 25 = .ok (.iadd, 1) := by decide +kernel
theorem dX9_drawDelays_26 : decode cX9_drawDelays 26 = .ok (.invokevirtual 224, 3) := by decide +kernel
theorem dX9_drawDelays_29 : decode cX9_drawDelays 29 = .ok (.iload_n 2, 1) := by decide +kernel
theorem dX9_drawDelays_30 : decode cX9_drawDelays 30 = .ok (.bipush 9, 2) := by decide +kernel
theorem dX9_drawDelays_32 : decode cX9_drawDelays 32 = .ok (.idiv, 1) := by decide +kernel
theorem dX9_drawDelays_33 : decode cX9_drawDelays 33 = .ok (.istore_n 2, 1) := by decide +kernel
theorem dX9_drawDelays_34 : decode cX9_drawDelays 34 = .ok (.iinc 3 1, 3) := by decide +kernel
theorem dX9_drawDelays_37 : decode cX9_drawDelays 37 = .ok (.goto (-33), 3) := by decide +kernel
theorem dX9_drawDelays_40 : decode cX9_drawDelays 40 = .ok (.return_, 1) := by decide +kernel
theorem dX9_factorial_0 : decode cX9_factorial 0 = .ok (.iload_n 0, 1) := by decide +kernel
theorem dX9_factorial_1 : decode cX9_factorial 1 = .ok (.ifCond .lt 19, 3) := by decide +kernel
theorem dX9_factorial_4 : decode cX9_factorial 4 = .ok (.iload_n 0, 1) := by decide +kernel
theorem dX9_factorial_5 : decode cX9_factorial 5 = .ok (.getstatic 292, 3) := by decide +kernel
theorem dX9_factorial_8 : decode cX9_factorial 8 = .ok (.arraylength, 1) := by decide +kernel
theorem dX9_factorial_9 : decode cX9_factorial 9 = .ok (.if_icmp .ge 11, 3) := by decide +kernel
theorem dX9_factorial_12 : decode cX9_factorial 12 = .ok (.getstatic 292, 3) := by decide +kernel
theorem dX9_factorial_15 : decode cX9_factorial 15 = .ok (.iload_n 0, 1) := by decide +kernel
theorem dX9_factorial_16 : decode cX9_factorial 16 = .ok (.laload, 1) := by decide +kernel
theorem dX9_factorial_17 : decode cX9_factorial 17 = .ok (.goto 4, 3) := by decide +kernel
theorem dX9_factorial_20 : decode cX9_factorial 20 = .ok (.lconst 0, 1) := by decide +kernel
theorem dX9_factorial_21 : decode cX9_factorial 21 = .ok (.lreturn, 1) := by decide +kernel
theorem dX9_partOfFraction_0 : decode cX9_partOfFraction 0 = .ok (.lload_n 0, 1) := by decide +kernel
theorem dX9_partOfFraction_1 : decode cX9_partOfFraction 1 = .ok (.invokestatic 296, 3) := by decide +kernel
theorem dX9_partOfFraction_4 : decode cX9_partOfFraction 4 = .ok (.lload_n 2, 1) := by decide +kernel
theorem dX9_partOfFraction_5 : decode cX9_partOfFraction 5 = .ok (.invokestatic 300, 3) := by decide +kernel
theorem dX9_partOfFraction_8 : decode cX9_partOfFraction 8 = .ok (.lstore 5, 2) := by decide +kernel
theorem dX9_partOfFraction_10 : decode cX9_partOfFraction 10 = .ok (.lload 5, 2) := by decide +kernel
theorem dX9_partOfFraction_12 : decode cX9_partOfFraction 12 = .ok (.lconst 0, 1) := by decide +kernel
theorem dX9_partOfFraction_13 : decode cX9_partOfFraction 13 = .ok (.lcmp, 1) := by decide +kernel
theorem dX9_partOfFraction_14 : decode cX9_partOfFraction 14 = .ok (.ifCond .ne 5, 3) := by decide +kernel
theorem dX9_partOfFraction_17 : decode cX9_partOfFraction 17 = .ok (.iconst 0, 1) := by decide +kernel
theorem dX9_partOfFraction_18 : decode cX9_partOfFraction 18 = .ok (.ireturn, 1) := by decide +kernel
theorem dX9_partOfFraction_19 : decode cX9_partOfFraction 19 = .ok (.iload 4, 2) := by decide +kernel
theorem dX9_partOfFraction_21 : decode cX9_partOfFraction 21 = .ok (.ifCond .eq 7, 3) := by decide +kernel
theorem dX9_partOfFraction_24 : decode cX9_partOfFraction 24 = .ok (.lload_n 0, 1) := by decide +kernel
theorem dX9_partOfFraction_25 : decode cX9_partOfFraction 25 = .ok (.goto 4, 3) := by decide +kernel
theorem dX9_partOfFraction_28 : decode cX9_partOfFraction 28 = .ok (.lload_n 2, 1) := by decide +kernel
theorem dX9_partOfFraction_29 : decode cX9_partOfFraction 29 = .ok (.lload 5, 2) := by decide +kernel
theorem dX9_partOfFraction_31 : decode cX9_partOfFraction 31 = .ok (.ldiv, 1) := by decide +kernel
theorem dX9_partOfFraction_32 : decode cX9_partOfFraction 32 = .ok (.l2i, 1) := by decide +kernel
theorem dX9_partOfFraction_33 : decode cX9_partOfFraction 33 = .ok (.ireturn, 1) := by decide +kernel
theorem dX9_commonDivisor_0 : decode cX9_commonDivisor 0 = .ok (.lload_n 0, 1) := by decide +kernel
theorem dX9_commonDivisor_1 : decode cX9_commonDivisor 1 = .ok (.lstore 4, 2) := by decide +kernel
theorem dX9_commonDivisor_3 : decode cX9_commonDivisor 3 = .ok (.lload_n 2, 1) := by decide +kernel
theorem dX9_commonDivisor_4 : decode cX9_commonDivisor 4 = .ok (.lstore 6, 2) := by decide +kernel
theorem dX9_commonDivisor_6 : decode cX9_commonDivisor 6 = .ok (.iconst 0, 1) := by decide +kernel
theorem dX9_commonDivisor_7 : decode cX9_commonDivisor 7 = .ok (.istore 8, 2) := by decide +kernel
theorem dX9_commonDivisor_9 : decode cX9_commonDivisor 9 = .ok (.iload 8, 2) := by decide +kernel
theorem dX9_commonDivisor_11 : decode cX9_commonDivisor 11 = .ok (.sipush 128, 3) := by decide +kernel
theorem dX9_commonDivisor_14 : decode cX9_commonDivisor 14 = .ok (.if_icmp .ge 31, 3) := by decide +kernel
theorem dX9_commonDivisor_17 : decode cX9_commonDivisor 17 = .ok (.lload 6, 2) := by decide +kernel
theorem dX9_commonDivisor_19 : decode cX9_commonDivisor 19 = .ok (.lconst 0, 1) := by decide +kernel
theorem dX9_commonDivisor_20 : decode cX9_commonDivisor 20 = .ok (.lcmp, 1) := by decide +kernel
theorem dX9_commonDivisor_21 : decode cX9_commonDivisor 21 = .ok (.ifCond .eq 24, 3) := by decide +kernel
theorem dX9_commonDivisor_24 : decode cX9_commonDivisor 24 = .ok (.lload 4, 2) := by decide +kernel
theorem dX9_commonDivisor_26 : decode cX9_commonDivisor 26 = .ok (.lload 6, 2) := by decide +kernel
theorem dX9_commonDivisor_28 : decode cX9_commonDivisor 28 = .ok (.lrem, 1) := by decide +kernel
theorem dX9_commonDivisor_29 : decode cX9_commonDivisor 29 = .ok (.lstore 9, 2) := by decide +kernel
theorem dX9_commonDivisor_31 : decode cX9_commonDivisor 31 = .ok (.lload 6, 2) := by decide +kernel
theorem dX9_commonDivisor_33 : decode cX9_commonDivisor 33 = .ok (.lstore 4, 2) := by decide +kernel
theorem dX9_commonDivisor_35 : decode cX9_commonDivisor 35 = .ok (.lload 9, 2) := by decide +kernel
theorem dX9_commonDivisor_37 : decode cX9_commonDivisor 37 = .ok (.lstore 6, 2) := by decide +kernel
theorem dX9_commonDivisor_39 : decode cX9_commonDivisor 39 = .ok (.iinc 8 1, 3) := by decide +kernel
theorem dX9_commonDivisor_42 : decode cX9_commonDivisor 42 = .ok (.goto (-33), 3) := by decide +kernel
theorem dX9_commonDivisor_45 : decode cX9_commonDivisor 45 = .ok (.lload 4, 2) := by decide +kernel
theorem dX9_commonDivisor_47 : decode cX9_commonDivisor 47 = .ok (.lreturn, 1) := by decide +kernel
theorem dX9_at_0 : decode cX9_at 0 = .ok (.iload_n 1, 1) := by decide +kernel
theorem dX9_at_1 : decode cX9_at 1 = .ok (.ifCond .lt 15, 3) := by decide +kernel
theorem dX9_at_4 : decode cX9_at 4 = .ok (.iload_n 1, 1) := by decide +kernel
theorem dX9_at_5 : decode cX9_at 5 = .ok (.aload_n 0, 1) := by decide +kernel
theorem dX9_at_6 : decode cX9_at 6 = .ok (.arraylength, 1) := by decide +kernel
theorem dX9_at_7 : decode cX9_at 7 = .ok (.if_icmp .ge 9, 3) := by decide +kernel
theorem dX9_at_10 : decode cX9_at 10 = .ok (.aload_n 0, 1) := by decide +kernel
theorem dX9_at_11 : decode cX9_at 11 = .ok (.iload_n 1, 1) := by decide +kernel
theorem dX9_at_12 : decode cX9_at 12 = .ok (.iaload, 1) := by decide +kernel
theorem dX9_at_13 : decode cX9_at 13 = .ok (.goto 4, 3) := by decide +kernel
theorem dX9_at_16 : decode cX9_at 16 = .ok (.iconst 0, 1) := by decide +kernel
theorem dX9_at_17 : decode cX9_at 17 = .ok (.ireturn, 1) := by decide +kernel
theorem dX9_put_0 : decode cX9_put 0 = .ok (.iload_n 1, 1) := by decide +kernel
theorem dX9_put_1 : decode cX9_put 1 = .ok (.ifCond .lt 13, 3) := by decide +kernel
theorem dX9_put_4 : decode cX9_put 4 = .ok (.iload_n 1, 1) := by decide +kernel
theorem dX9_put_5 : decode cX9_put 5 = .ok (.aload_n 0, 1) := by decide +kernel
theorem dX9_put_6 : decode cX9_put 6 = .ok (.arraylength, 1) := by decide +kernel
theorem dX9_put_7 : decode cX9_put 7 = .ok (.if_icmp .ge 7, 3) := by decide +kernel
theorem dX9_put_10 : decode cX9_put 10 = .ok (.aload_n 0, 1) := by decide +kernel
theorem dX9_put_11 : decode cX9_put 11 = .ok (.iload_n 1, 1) := by decide +kernel
theorem dX9_put_12 : decode cX9_put 12 = .ok (.iload_n 2, 1) := by decide +kernel
theorem dX9_put_13 : decode cX9_put 13 = .ok (.iastore, 1) := by decide +kernel
theorem dX9_put_14 : decode cX9_put 14 = .ok (.return_, 1) := by decide +kernel
theorem dJ6_bitCount_0f7a4_0 : decode cJ6_bitCount_0f7a4 0 = .ok (.iload_n 0, 1) := by decide +kernel
theorem dJ6_bitCount_0f7a4_1 : decode cJ6_bitCount_0f7a4 1 = .ok (.iload_n 0, 1) := by decide +kernel
theorem dJ6_bitCount_0f7a4_2 : decode cJ6_bitCount_0f7a4 2 = .ok (.iconst 1, 1) := by decide +kernel
theorem dJ6_bitCount_0f7a4_3 : decode cJ6_bitCount_0f7a4 3 = .ok (.iushr, 1) := by decide +kernel
theorem dJ6_bitCount_0f7a4_4 : decode cJ6_bitCount_0f7a4 4 = .ok (.ldc_w 265, 3) := by decide +kernel
theorem dJ6_bitCount_0f7a4_7 : decode cJ6_bitCount_0f7a4 7 = .ok (.iand, 1) := by decide +kernel
theorem dJ6_bitCount_0f7a4_8 : decode cJ6_bitCount_0f7a4 8 = .ok (.isub, 1) := by decide +kernel
theorem dJ6_bitCount_0f7a4_9 : decode cJ6_bitCount_0f7a4 9 = .ok (.istore_n 0, 1) := by decide +kernel
theorem dJ6_bitCount_0f7a4_10 : decode cJ6_bitCount_0f7a4 10 = .ok (.iload_n 0, 1) := by decide +kernel
theorem dJ6_bitCount_0f7a4_11 : decode cJ6_bitCount_0f7a4 11 = .ok (.ldc_w 266, 3) := by decide +kernel
theorem dJ6_bitCount_0f7a4_14 : decode cJ6_bitCount_0f7a4 14 = .ok (.iand, 1) := by decide +kernel
theorem dJ6_bitCount_0f7a4_15 : decode cJ6_bitCount_0f7a4 15 = .ok (.iload_n 0, 1) := by decide +kernel
theorem dJ6_bitCount_0f7a4_16 : decode cJ6_bitCount_0f7a4 16 = .ok (.iconst 2, 1) := by decide +kernel
theorem dJ6_bitCount_0f7a4_17 : decode cJ6_bitCount_0f7a4 17 = .ok (.iushr, 1) := by decide +kernel
theorem dJ6_bitCount_0f7a4_18 : decode cJ6_bitCount_0f7a4 18 = .ok (.ldc_w 266, 3) := by decide +kernel
theorem dJ6_bitCount_0f7a4_21 : decode cJ6_bitCount_0f7a4 21 = .ok (.iand, 1) := by decide +kernel
theorem dJ6_bitCount_0f7a4_22 : decode cJ6_bitCount_0f7a4 22 = .ok (.iadd, 1) := by decide +kernel
theorem dJ6_bitCount_0f7a4_23 : decode cJ6_bitCount_0f7a4 23 = .ok (.istore_n 0, 1) := by decide +kernel
theorem dJ6_bitCount_0f7a4_24 : decode cJ6_bitCount_0f7a4 24 = .ok (.iload_n 0, 1) := by decide +kernel
theorem dJ6_bitCount_0f7a4_25 : decode cJ6_bitCount_0f7a4 25 = .ok (.iload_n 0, 1) := by decide +kernel
theorem dJ6_bitCount_0f7a4_26 : decode cJ6_bitCount_0f7a4 26 = .ok (.iconst 4, 1) := by decide +kernel
theorem dJ6_bitCount_0f7a4_27 : decode cJ6_bitCount_0f7a4 27 = .ok (.iushr, 1) := by decide +kernel
theorem dJ6_bitCount_0f7a4_28 : decode cJ6_bitCount_0f7a4 28 = .ok (.iadd, 1) := by decide +kernel
theorem dJ6_bitCount_0f7a4_29 : decode cJ6_bitCount_0f7a4 29 = .ok (.ldc_w 267, 3) := by decide +kernel
theorem dJ6_bitCount_0f7a4_32 : decode cJ6_bitCount_0f7a4 32 = .ok (.iand, 1) := by decide +kernel
theorem dJ6_bitCount_0f7a4_33 : decode cJ6_bitCount_0f7a4 33 = .ok (.istore_n 0, 1) := by decide +kernel
theorem dJ6_bitCount_0f7a4_34 : decode cJ6_bitCount_0f7a4 34 = .ok (.iload_n 0, 1) := by decide +kernel
theorem dJ6_bitCount_0f7a4_35 : decode cJ6_bitCount_0f7a4 35 = .ok (.iload_n 0, 1) := by decide +kernel
theorem dJ6_bitCount_0f7a4_36 : decode cJ6_bitCount_0f7a4 36 = .ok (.bipush 8, 2) := by decide +kernel
theorem dJ6_bitCount_0f7a4_38 : decode cJ6_bitCount_0f7a4 38 = .ok (.iushr, 1) := by decide +kernel
theorem dJ6_bitCount_0f7a4_39 : decode cJ6_bitCount_0f7a4 39 = .ok (.iadd, 1) := by decide +kernel
theorem dJ6_bitCount_0f7a4_40 : decode cJ6_bitCount_0f7a4 40 = .ok (.istore_n 0, 1) := by decide +kernel
theorem dJ6_bitCount_0f7a4_41 : decode cJ6_bitCount_0f7a4 41 = .ok (.iload_n 0, 1) := by decide +kernel
theorem dJ6_bitCount_0f7a4_42 : decode cJ6_bitCount_0f7a4 42 = .ok (.iload_n 0, 1) := by decide +kernel
theorem dJ6_bitCount_0f7a4_43 : decode cJ6_bitCount_0f7a4 43 = .ok (.bipush 16, 2) := by decide +kernel
theorem dJ6_bitCount_0f7a4_45 : decode cJ6_bitCount_0f7a4 45 = .ok (.iushr, 1) := by decide +kernel
theorem dJ6_bitCount_0f7a4_46 : decode cJ6_bitCount_0f7a4 46 = .ok (.iadd, 1) := by decide +kernel
theorem dJ6_bitCount_0f7a4_47 : decode cJ6_bitCount_0f7a4 47 = .ok (.istore_n 0, 1) := by decide +kernel
theorem dJ6_bitCount_0f7a4_48 : decode cJ6_bitCount_0f7a4 48 = .ok (.iload_n 0, 1) := by decide +kernel
theorem dJ6_bitCount_0f7a4_49 : decode cJ6_bitCount_0f7a4 49 = .ok (.bipush 63, 2) := by decide +kernel
theorem dJ6_bitCount_0f7a4_51 : decode cJ6_bitCount_0f7a4 51 = .ok (.iand, 1) := by decide +kernel
theorem dJ6_bitCount_0f7a4_52 : decode cJ6_bitCount_0f7a4 52 = .ok (.ireturn, 1) := by decide +kernel
theorem dJ9_abs_067f4_0 : decode cJ9_abs_067f4 0 = .ok (.lload_n 0, 1) := by decide +kernel
theorem dJ9_abs_067f4_1 : decode cJ9_abs_067f4 1 = .ok (.lconst 0, 1) := by decide +kernel
theorem dJ9_abs_067f4_2 : decode cJ9_abs_067f4 2 = .ok (.lcmp, 1) := by decide +kernel
theorem dJ9_abs_067f4_3 : decode cJ9_abs_067f4 3 = .ok (.ifCond .ge 8, 3) := by decide +kernel
theorem dJ9_abs_067f4_6 : decode cJ9_abs_067f4 6 = .ok (.lload_n 0, 1) := by decide +kernel
theorem dJ9_abs_067f4_7 : decode cJ9_abs_067f4 7 = .ok (.lneg, 1) := by decide +kernel
theorem dJ9_abs_067f4_8 : decode cJ9_abs_067f4 8 = .ok (.goto 4, 3) := by decide +kernel
theorem dJ9_abs_067f4_11 : decode cJ9_abs_067f4 11 = .ok (.lload_n 0, 1) := by decide +kernel
theorem dJ9_abs_067f4_12 : decode cJ9_abs_067f4 12 = .ok (.lreturn, 1) := by decide +kernel
theorem dJ9_max_7cf53_0 : decode cJ9_max_7cf53 0 = .ok (.iload_n 0, 1) := by decide +kernel
theorem dJ9_max_7cf53_1 : decode cJ9_max_7cf53 1 = .ok (.iload_n 1, 1) := by decide +kernel
theorem dJ9_max_7cf53_2 : decode cJ9_max_7cf53 2 = .ok (.if_icmp .lt 7, 3) := by decide +kernel
theorem dJ9_max_7cf53_5 : decode cJ9_max_7cf53 5 = .ok (.iload_n 0, 1) := by decide +kernel
theorem dJ9_max_7cf53_6 : decode cJ9_max_7cf53 6 = .ok (.goto 4, 3) := by decide +kernel
theorem dJ9_max_7cf53_9 : decode cJ9_max_7cf53 9 = .ok (.iload_n 1, 1) := by decide +kernel
theorem dJ9_max_7cf53_10 : decode cJ9_max_7cf53 10 = .ok (.ireturn, 1) := by decide +kernel
theorem dJ9_min_7cf53_0 : decode cJ9_min_7cf53 0 = .ok (.iload_n 0, 1) := by decide +kernel
theorem dJ9_min_7cf53_1 : decode cJ9_min_7cf53 1 = .ok (.iload_n 1, 1) := by decide +kernel
theorem dJ9_min_7cf53_2 : decode cJ9_min_7cf53 2 = .ok (.if_icmp .gt 7, 3) := by decide +kernel
theorem dJ9_min_7cf53_5 : decode cJ9_min_7cf53 5 = .ok (.iload_n 0, 1) := by decide +kernel
theorem dJ9_min_7cf53_6 : decode cJ9_min_7cf53 6 = .ok (.goto 4, 3) := by decide +kernel
theorem dJ9_min_7cf53_9 : decode cJ9_min_7cf53 9 = .ok (.iload_n 1, 1) := by decide +kernel
theorem dJ9_min_7cf53_10 : decode cJ9_min_7cf53 10 = .ok (.ireturn, 1) := by decide +kernel
end
section
theorem dX10_init_0 : decode cX10_init 0 = .ok (.aload_n 0, 1) := by decide +kernel
theorem dX10_init_1 : decode cX10_init 1 = .ok (.invokespecial 1, 3) := by decide +kernel
theorem dX10_init_4 : decode cX10_init 4 = .ok (.aload_n 0, 1) := by decide +kernel
theorem dX10_init_5 : decode cX10_init 5 = .ok (.bipush 60, 2) := by decide +kernel
theorem dX10_init_7 : decode cX10_init 7 = .ok (.newarray .int, 2) := by decide +kernel
theorem dX10_init_9 : decode cX10_init 9 = .ok (.putfield 7, 3) := by decide +kernel
theorem dX10_init_12 : decode cX10_init 12 = .ok (.aload_n 0, 1) := by decide +kernel
theorem dX10_init_13 : decode cX10_init 13 = .ok (.bipush 33, 2) := by decide +kernel
theorem dX10_init_15 : decode cX10_init 15 = .ok (.newarray .int, 2) := by decide +kernel
theorem dX10_init_17 : decode cX10_init 17 = .ok (.putfield 13, 3) := by decide +kernel
theorem dX10_init_20 : decode cX10_init 20 = .ok (.aload_n 0, 1) := by decide +kernel
theorem dX10_init_21 : decode cX10_init 21 = .ok (.bipush 33, 2) := by decide +kernel
theorem dX10_init_23 : decode cX10_init 23 = .ok (.newarray .int, 2) := by decide +kernel
theorem dX10_init_25 : decode cX10_init 25 = .ok (.putfield 16, 3) := by decide +kernel
theorem dX10_init_28 : decode cX10_init 28 = .ok (.aload_n 0, 1) := by decide +kernel
theorem dX10_init_29 : decode cX10_init 29 = .ok (.sipush 462, 3) := by decide +kernel
theorem dX10_init_32 : decode cX10_init 32 = .ok (.newarray .int, 2) := by decide +kernel
theorem dX10_init_34 : decode cX10_init 34 = .ok (.putfield 19, 3) := by decide +kernel
theorem dX10_init_37 : decode cX10_init 37 = .ok (.aload_n 0, 1) := by decide +kernel
theorem dX10_init_38 : decode cX10_init 38 = .ok (.bipush 66, 2) := by decide +kernel
theorem dX10_init_40 : decode cX10_init 40 = .ok (.newarray .int, 2) := by decide +kernel
theorem dX10_init_42 : decode cX10_init 42 = .ok (.putfield 22, 3) := by decide +kernel
theorem dX10_init_45 : decode cX10_init 45 = .ok (.aload_n 0, 1) := by decide +kernel
theorem dX10_init_46 : decode cX10_init 46 = .ok (.iconst 2, 1) := by decide +kernel
theorem dX10_init_47 : decode cX10_init 47 = .ok (.newarray .boolean, 2) := by decide +kernel
theorem dX10_init_49 : decode cX10_init 49 = .ok (.putfield 25, 3) := by decide +kernel
theorem dX10_init_52 : decode cX10_init 52 = .ok (.aload_n 0, 1) := by decide +kernel
theorem dX10_init_53 : decode cX10_init 53 = .ok (.bipush 6, 2) := by decide +kernel
theorem dX10_init_55 : decode cX10_init 55 = .ok (.newarray .int, 2) := by decide +kernel
theorem dX10_init_57 : decode cX10_init 57 = .ok (.putfield 29, 3) := by decide +kernel
theorem dX10_init_60 : decode cX10_init 60 = .ok (.aload_n 0, 1) := by decide +kernel
theorem dX10_init_61 : decode cX10_init 61 = .ok (.bipush 6, 2) := by decide +kernel
theorem dX10_init_63 : decode cX10_init 63 = .ok (.newarray .int, 2) := by decide +kernel
theorem dX10_init_65 : decode cX10_init 65 = .ok (.putfield 32, 3) := by decide +kernel
theorem dX10_init_68 : decode cX10_init 68 = .ok (.aload_n 0, 1) := by decide +kernel
theorem dX10_init_69 : decode cX10_init 69 = .ok (.bipush 24, 2) := by decide +kernel
theorem dX10_init_71 : decode cX10_init 71 = .ok (.newarray .int, 2) := by decide +kernel
theorem dX10_init_73 : decode cX10_init 73 = .ok (.putfield 35, 3) := by decide +kernel
theorem dX10_init_76 : decode cX10_init 76 = .ok (.aload_n 0, 1) := by decide +kernel
theorem dX10_init_77 : decode cX10_init 77 = .ok (.bipush 8, 2) := by decide +kernel
theorem dX10_init_79 : decode cX10_init 79 = .ok (.newarray .int, 2) := by decide +kernel
theorem dX10_init_81 : decode cX10_init 81 = .ok (.putfield 38, 3) := by decide +kernel
theorem dX10_init_84 : decode cX10_init 84 = .ok (.aload_n 0, 1) := by decide +kernel
theorem dX10_init_85 : decode cX10_init 85 = .ok (.bipush 8, 2) := by decide +kernel
theorem dX10_init_87 : decode cX10_init 87 = .ok (.newarray .int, 2) := by decide +kernel
theorem dX10_init_89 : decode cX10_init 89 = .ok (.putfield 41, 3) := by decide +kernel
theorem dX10_init_92 : decode cX10_init 92 = .ok (.aload_n 0, 1) := by decide +kernel
theorem dX10_init_93 : decode cX10_init 93 = .ok (.bipush 8, 2) := by decide +kernel
theorem dX10_init_95 : decode cX10_init 95 = .ok (.newarray .int, 2) := by decide +kernel
theorem dX10_init_97 : decode cX10_init 97 = .ok (.putfield 44, 3) := by decide +kernel
theorem dX10_init_100 : decode cX10_init 100 = .ok (.aload_n 0, 1) := by decide +kernel
theorem dX10_init_101 : decode cX10_init 101 = .ok (.sipush 256, 3) := by decide +kernel
theorem dX10_init_104 : decode cX10_init 104 = .ok (.newarray .int, 2) := by decide +kernel
theorem dX10_init_106 : decode cX10_init 106 = .ok (.putfield 47, 3) := by decide +kernel
theorem dX10_init_109 : decode cX10_init 109 = .ok (.aload_n 0, 1) := by decide +kernel
theorem dX10_init_110 : decode cX10_init 110 = .ok (.bipush 61, 2) := by decide +kernel
theorem dX10_init_112 : decode cX10_init 112 = .ok (.newarray .long, 2) := by decide +kernel
theorem dX10_init_114 : decode cX10_init 114 = .ok (.putfield 50, 3) := by decide +kernel
theorem dX10_init_117 : decode cX10_init 117 = .ok (.aload_n 0, 1) := by decide +kernel
theorem dX10_init_118 : decode cX10_init 118 = .ok (.bipush 33, 2) := by decide +kernel
theorem dX10_init_120 : decode cX10_init 120 = .ok (.newarray .int, 2) := by decide +kernel
theorem dX10_init_122 : decode cX10_init 122 = .ok (.putfield 54, 3) := by decide +kernel
theorem dX10_init_125 : decode cX10_init 125 = .ok (.aload_n 0, 1) := by decide +kernel
theorem dX10_init_126 : decode cX10_init 126 = .ok (.iconst 1, 1) := by decide +kernel
theorem dX10_init_127 : decode cX10_init 127 = .ok (.putfield 57, 3) := by decide +kernel
theorem dX10_init_130 : decode cX10_init 130 = .ok (.aload_n 0, 1) := by decide +kernel
theorem dX10_init_131 : decode cX10_init 131 = .ok (.getfield 13, 3) := by decide +kernel
theorem dX10_init_134 : decode cX10_init 134 = .ok (.iconst 0, 1) := by decide +kernel
theorem dX10_init_135 : decode cX10_init 135 = .ok (.iconst 1, 1) := by decide +kernel
theorem dX10_init_136 : decode cX10_init 136 = .ok (.iastore, 1) := by decide +kernel
theorem dX10_init_137 : decode cX10_init 137 = .ok (.aload_n 0, 1) := by decide +kernel
theorem dX10_init_138 : decode cX10_init 138 = .ok (.getfield 13, 3) := by decide +kernel
theorem dX10_init_141 : decode cX10_init 141 = .ok (.iconst 1, 1) := by decide +kernel
theorem dX10_init_142 : decode cX10_init 142 = .ok (.iconst 1, 1) := by decide +kernel
theorem dX10_init_143 : decode cX10_init 143 = .ok (.iastore, 1) := by decide +kernel
theorem dX10_init_144 : decode cX10_init 144 = .ok (.aload_n 0, 1) := by decide +kernel
theorem dX10_init_145 : decode cX10_init 145 = .ok (.getfield 13, 3) := by decide +kernel
theorem dX10_init_148 : decode cX10_init 148 = .ok (.bipush 9, 2) := by decide +kernel
theorem dX10_init_150 : decode cX10_init 150 = .ok (.iconst 1, 1) := by decide +kernel
theorem dX10_init_151 : decode cX10_init 151 = .ok (.iastore, 1) := by decide +kernel
theorem dX10_init_152 : decode cX10_init 152 = .ok (.return_, 1) := by decide +kernel
theorem dX10_copy_0 : decode cX10_copy 0 = .ok (.iconst 0, 1) := by decide +kernel
theorem dX10_copy_1 : decode cX10_copy 1 = .ok (.istore_n 2, 1) := by decide +kernel
theorem dX10_copy_2 : decode cX10_copy 2 = .ok (.iload_n 2, 1) := by decide +kernel
theorem dX10_copy_3 : decode cX10_copy 3 = .ok (.bipush 33, 2) := by decide +kernel
theorem dX10_copy_5 : decode cX10_copy 5 = .ok (.if_icmp .ge 15, 3) := by decide +kernel
theorem dX10_copy_8 : decode cX10_copy 8 = .ok (.aload_n 1, 1) := by decide +kernel
theorem dX10_copy_9 : decode cX10_copy 9 = .ok (.iload_n 2, 1) := by decide +kernel
theorem dX10_copy_10 : decode cX10_copy 10 = .ok (.aload_n 0, 1) := by decide +kernel
theorem dX10_copy_11 : decode cX10_copy 11 = .ok (.iload_n 2, 1) := by decide +kernel
theorem dX10_copy_12 : decode cX10_copy 12 = .ok (.iaload, 1) := by decide +kernel
theorem dX10_copy_13 : decode cX10_copy 13 = .ok (.iastore, 1) := by decide +kernel
theorem dX10_copy_14 : decode cX10_copy 14 = .ok (.iinc 2 1, 3) := by decide +kernel
theorem dX10_copy_17 : decode cX10_copy 17 = .ok (.goto (-15), 3) := by decide +kernel
theorem dX10_copy_20 : decode cX10_copy 20 = .ok (.return_, 1) := by decide +kernel
theorem dX10_in_0 : decode cX10_in 0 = .ok (.lload_n 0, 1) := by decide +kernel
theorem dX10_in_1 : decode cX10_in 1 = .ok (.lload_n 2, 1) := by decide +kernel
theorem dX10_in_2 : decode cX10_in 2 = .ok (.lcmp, 1) := by decide +kernel
theorem dX10_in_3 : decode cX10_in 3 = .ok (.ifCond .lt 14, 3) := by decide +kernel
theorem dX10_in_6 : decode cX10_in 6 = .ok (.lload_n 0, 1) := by decide +kernel
theorem dX10_in_7 : decode cX10_in 7 = .ok (.lload 4, 2) := by decide +kernel
theorem dX10_in_9 : decode cX10_in 9 = .ok (.lcmp, 1) := by decide +kernel
theorem dX10_in_10 : decode cX10_in 10 = .ok (.ifCond .gt 7, 3) := by decide +kernel
theorem dX10_in_13 : decode cX10_in 13 = .ok (.iconst 1, 1) := by decide +kernel
theorem dX10_in_14 : decode cX10_in 14 = .ok (.goto 4, 3) := by decide +kernel
theorem dX10_in_17 : decode cX10_in 17 = .ok (.iconst 0, 1) := by decide +kernel
theorem dX10_in_18 : decode cX10_in 18 = .ok (.ireturn, 1) := by decide +kernel
theorem dX10_has_0 : decode cX10_has 0 = .ok (.iload_n 0, 1) := by decide +kernel
theorem dX10_has_1 : decode cX10_has 1 = .ok (.iload_n 1, 1) := by decide +kernel
theorem dX10_has_2 : decode cX10_has 2 = .ok (.ishr, 1) := by decide +kernel
theorem dX10_has_3 : decode cX10_has 3 = .ok (.iconst 1, 1) := by decide +kernel
theorem dX10_has_4 : decode cX10_has 4 = .ok (.iand, 1) := by decide +kernel
theorem dX10_has_5 : decode cX10_has 5 = .ok (.iconst 1, 1) := by decide +kernel
theorem dX10_has_6 : decode cX10_has 6 = .ok (.if_icmp .ne 7, 3) := by decide +kernel
theorem dX10_has_9 : decode cX10_has 9 = .ok (.iconst 1, 1) := by decide +kernel
theorem dX10_has_10 : decode cX10_has 10 = .ok (.goto 4, 3) := by decide +kernel
theorem dX10_has_13 : decode cX10_has 13 = .ok (.iconst 0, 1) := by decide +kernel
theorem dX10_has_14 : decode cX10_has 14 = .ok (.ireturn, 1) := by decide +kernel
theorem dX10_ones_0 : decode cX10_ones 0 = .ok (.iconst 0, 1) := by decide +kernel
theorem dX10_ones_1 : decode cX10_ones 1 = .ok (.istore_n 1, 1) := by decide +kernel
theorem dX10_ones_2 : decode cX10_ones 2 = .ok (.iconst 0, 1) := by decide +kernel
theorem dX10_ones_3 : decode cX10_ones 3 = .ok (.istore_n 2, 1) := by decide +kernel
theorem dX10_ones_4 : decode cX10_ones 4 = .ok (.iload_n 2, 1) := by decide +kernel
theorem dX10_ones_5 : decode cX10_ones 5 = .ok (.bipush 8, 2) := by decide +kernel
theorem dX10_ones_7 : decode cX10_ones 7 = .ok (.if_icmp .ge 17, 3) := by decide +kernel
theorem dX10_ones_10 : decode cX10_ones 10 = .ok (.iload_n 1, 1) := by decide +kernel
theorem dX10_ones_11 : decode cX10_ones 11 = .ok (.iload_n 0, 1) := by decide +kernel
theorem dX10_ones_12 : decode cX10_ones 12 = .ok (.iload_n 2, 1) := by decide +kernel
theorem dX10_ones_13 : decode cX10_ones 13 = .ok (.ishr, 1) := by decide +kernel
theorem dX10_ones_14 : decode cX10_ones 14 = .ok (.iconst 1, 1) := by decide +kernel
theorem dX10_ones_15 : decode cX10_ones 15 = .ok (.iand, 1) := by decide +kernel
theorem dX10_ones_16 : decode cX10_ones 16 = .ok (.iadd, 1) := by decide +kernel
theorem dX10_ones_17 : decode cX10_ones 17 = .ok (.istore_n 1, 1) := by decide +kernel
theorem dX10_ones_18 : decode cX10_ones 18 = .ok (.iinc 2 1, 3) := by decide +kernel
theorem dX10_ones_21 : decode cX10_ones 21 = .ok (.goto (-17), 3) := by decide +kernel
theorem dX10_ones_24 : decode cX10_ones 24 = .ok (.iload_n 1, 1) := by decide +kernel
theorem dX10_ones_25 : decode cX10_ones 25 = .ok (.ireturn, 1) := by decide +kernel
theorem dX10_power_0 : decode cX10_power 0 = .ok (.iconst 1, 1) := by decide +kernel
theorem dX10_power_1 : decode cX10_power 1 = .ok (.istore_n 2, 1) := by decide +kernel
theorem dX10_power_2 : decode cX10_power 2 = .ok (.iconst 0, 1) := by decide +kernel
theorem dX10_power_3 : decode cX10_power 3 = .ok (.istore_n 3, 1) := by decide +kernel
theorem dX10_power_4 : decode cX10_power 4 = .ok (.iload_n 3, 1) := by decide +kernel
theorem dX10_power_5 : decode cX10_power 5 = .ok (.iload_n 1, 1) := by decide +kernel
theorem dX10_power_6 : decode cX10_power 6 = .ok (.if_icmp .ge 13, 3) := by decide +kernel
theorem dX10_power_9 : decode cX10_power 9 = .ok (.iload_n 2, 1) := by decide +kernel
theorem dX10_power_10 : decode cX10_power 10 = .ok (.iload_n 0, 1) := by decide +kernel
theorem dX10_power_11 : decode cX10_power 11 = .ok (.imul, 1) := by decide +kernel
theorem dX10_power_12 : decode cX10_power 12 = .ok (.istore_n 2, 1) := by decide +kernel
theorem dX10_power_13 : decode cX10_power 13 = .ok (.iinc 3 1, 3) := by decide +kernel
theorem dX10_power_16 : decode cX10_power 16 = .ok (.goto (-12), 3) := by decide +kernel
theorem dX10_power_19 : decode cX10_power 19 = .ok (.iload_n 2, 1) := by decide +kernel
theorem dX10_power_20 : decode cX10_power 20 = .ok (.ireturn, 1) := by decide +kernel
theorem dX10_factorial_0 : decode cX10_factorial 0 = .ok (.iconst 1, 1) := by decide +kernel
theorem dX10_factorial_1 : decode cX10_factorial 1 = .ok (.istore_n 1, 1) := by decide +kernel
theorem dX10_factorial_2 : decode cX10_factorial 2 = .ok (.iconst 2, 1) := by decide +kernel
theorem dX10_factorial_3 : decode cX10_factorial 3 = .ok (.istore_n 2, 1) := by decide +kernel
theorem dX10_factorial_4 : decode cX10_factorial 4 = .ok (.iload_n 2, 1) := by decide +kernel
theorem dX10_factorial_5 : decode cX10_factorial 5 = .ok (.iload_n 0, 1) := by decide +kernel
theorem dX10_factorial_6 : decode cX10_factorial 6 = .ok (.if_icmp .gt 13, 3) := by decide +kernel
theorem dX10_factorial_9 : decode cX10_factorial 9 = .ok (.iload_n 1, 1) := by decide +kernel
theorem dX10_factorial_10 : decode cX10_factorial 10 = .ok (.iload_n 2, 1) := by decide +kernel
theorem dX10_factorial_11 : decode cX10_factorial 11 = .ok (.imul, 1) := by decide +kernel
theorem dX10_factorial_12 : decode cX10_factorial 12 = .ok (.istore_n 1, 1) := by decide +kernel
theorem dX10_factorial_13 : decode cX10_factorial 13 = .ok (.iinc 2 1, 3) := by decide +kernel
theorem dX10_factorial_16 : decode cX10_factorial 16 = .ok (.goto (-12), 3) := by decide +kernel
theorem dX10_factorial_19 : decode cX10_factorial 19 = .ok (.iload_n 1, 1) := by decide +kernel
theorem dX10_factorial_20 : decode cX10_factorial 20 = .ok (.ireturn, 1) := by decide +kernel
theorem dX10_fraction_0 : decode cX10_fraction 0 = .ok (.iload_n 0, 1) := by decide +kernel
theorem dX10_fraction_1 : decode cX10_fraction 1 = .ok (.ifCond .ge 8, 3) := by decide +kernel
theorem dX10_fraction_4 : decode cX10_fraction 4 = .ok (.iload_n 0, 1) := by decide +kernel
theorem dX10_fraction_5 : decode cX10_fraction 5 = .ok (.ineg, 1) := by decide +kernel
theorem dX10_fraction_6 : decode cX10_fraction 6 = .ok (.goto 4, 3) := by decide +kernel
theorem dX10_fraction_9 : decode cX10_fraction 9 = .ok (.iload_n 0, 1) := by decide +kernel
theorem dX10_fraction_10 : decode cX10_fraction 10 = .ok (.istore_n 3, 1) := by decide +kernel
theorem dX10_fraction_11 : decode cX10_fraction 11 = .ok (.iload_n 1, 1) := by decide +kernel
theorem dX10_fraction_12 : decode cX10_fraction 12 = .ok (.istore 4, 2) := by decide +kernel
theorem dX10_fraction_14 : decode cX10_fraction 14 = .ok (.iload 4, 2) := by decide +kernel
theorem dX10_fraction_16 : decode cX10_fraction 16 = .ok (.ifCond .eq 19, 3) := by decide +kernel
theorem dX10_fraction_19 : decode cX10_fraction 19 = .ok (.iload_n 3, 1) := by decide +kernel
theorem dX10_fraction_20 : decode cX10_fraction 20 = .ok (.iload 4, 2) := by decide +kernel
theorem dX10_fraction_22 : decode cX10_fraction 22 = .ok (.irem, 1) := by decide +kernel
theorem dX10_fraction_23 : decode cX10_fraction 23 = .ok (.istore 5, 2) := by decide +kernel
theorem dX10_fraction_25 : decode cX10_fraction 25 = .ok (.iload 4, 2) := by decide +kernel
theorem dX10_fraction_27 : decode cX10_fraction 27 = .ok (.istore_n 3, 1) := by decide +kernel
theorem dX10_fraction_28 : decode cX10_fraction 28 = .ok (.iload 5, 2) := by decide +kernel
theorem dX10_fraction_30 : decode cX10_fraction 30 = .ok (.istore 4, 2) := by decide +kernel
theorem dX10_fraction_32 : decode cX10_fraction 32 = .ok (.goto (-18), 3) := by decide +kernel
theorem dX10_fraction_35 : decode cX10_fraction 35 = .ok (.iload_n 2, 1) := by decide +kernel
theorem dX10_fraction_36 : decode cX10_fraction 36 = .ok (.ifCond .eq 9, 3) := by decide +kernel
theorem dX10_fraction_39 : decode cX10_fraction 39 = .ok (.iload_n 0, 1) := by decide +kernel
theorem dX10_fraction_40 : decode cX10_fraction 40 = .ok (.iload_n 3, 1) := by decide +kernel
theorem dX10_fraction_41 : decode cX10_fraction 41 = .ok (.idiv, 1) := by decide +kernel
theorem dX10_fraction_42 : decode cX10_fraction 42 = .ok (.goto 6, 3) := by decide +kernel
theorem dX10_fraction_45 : decode cX10_fraction 45 = .ok (.iload_n 1, 1) := by decide +kernel
theorem dX10_fraction_46 : decode cX10_fraction 46 = .ok (.iload_n 3, 1) := by decide +kernel
theorem dX10_fraction_47 : decode cX10_fraction 47 = .ok (.idiv, 1) := by decide +kernel
theorem dX10_fraction_48 : decode cX10_fraction 48 = .ok (.ireturn, 1) := by decide +kernel
theorem dX10_isPerson_0 : decode cX10_isPerson 0 = .ok (.iload_n 1, 1) := by decide +kernel
theorem dX10_isPerson_1 : decode cX10_isPerson 1 = .ok (.i2l, 1) := by decide +kernel
theorem dX10_isPerson_2 : decode cX10_isPerson 2 = .ok (.lconst 0, 1) := by decide +kernel
theorem dX10_isPerson_3 : decode cX10_isPerson 3 = .ok (.aload_n 0, 1) := by decide +kernel
theorem dX10_isPerson_4 : decode cX10_isPerson 4 = .ok (.getfield 57, 3) := by decide +kernel
theorem dX10_isPerson_7 : decode cX10_isPerson 7 = .ok (.iconst 1, 1) := by decide +kernel
theorem dX10_isPerson_8 : decode cX10_isPerson 8 = .ok (.isub, 1) := by decide +kernel
theorem dX10_isPerson_9 : decode cX10_isPerson 9 = .ok (.i2l, 1) := by decide +kernel
theorem dX10_isPerson_10 : decode cX10_isPerson 10 = .ok (.invokestatic 61, 3) := by decide +kernel
theorem dX10_isPerson_13 : decode cX10_isPerson 13 = .ok (.ireturn, 1) := by decide +kernel
theorem dX10_write_0 : decode cX10_write 0 = .ok (.iload_n 1, 1) := by decide +kernel
theorem dX10_write_1 : decode cX10_write 1 = .ok (.i2l, 1) := by decide +kernel
theorem dX10_write_2 : decode cX10_write 2 = .ok (.lconst 0, 1) := by decide +kernel
theorem dX10_write_3 : decode cX10_write 3 = .ok (.ldc2_w 65, 3) := by decide +kernel
theorem dX10_write_6 : decode cX10_write 6 = .ok (.invokestatic 61, 3) := by decide +kernel
theorem dX10_write_9 : decode cX10_write 9 = .ok (.ifCond .ne 6, 3) := by decide +kernel
theorem dX10_write_12 : decode cX10_write 12 = .ok (.bipush (-2), 2) := by decide +kernel
theorem dX10_write_14 : decode cX10_write 14 = .ok (.ireturn, 1) := by decide +kernel
theorem dX10_write_15 : decode cX10_write 15 = .ok (.aload_n 0, 1) := by decide +kernel
theorem dX10_write_16 : decode cX10_write 16 = .ok (.getfield 67, 3) := by decide +kernel
theorem dX10_write_19 : decode cX10_write 19 = .ok (.bipush 60, 2) := by decide +kernel
theorem dX10_write_21 : decode cX10_write 21 = .ok (.if_icmp .ne 6, 3) := by decide +kernel
theorem dX10_write_24 : decode cX10_write 24 = .ok (.bipush (-4), 2) := by decide +kernel
theorem dX10_write_26 : decode cX10_write 26 = .ok (.ireturn, 1) := by decide +kernel
theorem dX10_write_27 : decode cX10_write 27 = .ok (.aload_n 0, 1) := by decide +kernel
theorem dX10_write_28 : decode cX10_write 28 = .ok (.getfield 7, 3) := by decide +kernel
theorem dX10_write_31 : decode cX10_write 31 = .ok (.aload_n 0, 1) := by decide +kernel
theorem dX10_write_32 : decode cX10_write 32 = .ok (.getfield 67, 3) := by decide +kernel
theorem dX10_write_35 : decode cX10_write 35 = .ok (.iload_n 1, 1) := by decide +kernel
theorem dX10_write_36 : decode cX10_write 36 = .ok (.iastore, 1) := by decide +kernel
theorem dX10_write_37 : decode cX10_write 37 = .ok (.aload_n 0, 1) := by decide +kernel
theorem dX10_write_38 : decode cX10_write 38 = .ok (.dup, 1) := by decide +kernel
theorem dX10_write_39 : decode cX10_write 39 = .ok (.getfield 67, 3) := by decide +kernel
theorem dX10_write_42 : decode cX10_write 42 = .ok (.iconst 1, 1) := by decide +kernel
theorem dX10_write_43 : decode cX10_write 43 = .ok (.iadd, 1) := by decide +kernel
theorem dX10_write_44 : decode cX10_write 44 = .ok (.putfield 67, 3) := by decide +kernel
theorem dX10_write_47 : decode cX10_write 47 = .ok (.aload_n 0, 1) := by decide +kernel
theorem dX10_write_48 : decode cX10_write 48 = .ok (.getfield 67, 3) := by decide +kernel
theorem dX10_write_51 : decode cX10_write 51 = .ok (.ireturn, 1) := by decide +kernel
theorem dX10_wipe_0 : decode cX10_wipe 0 = .ok (.aload_n 0, 1) := by decide +kernel
theorem dX10_wipe_1 : decode cX10_wipe 1 = .ok (.getfield 67, 3) := by decide +kernel
theorem dX10_wipe_4 : decode cX10_wipe 4 = .ok (.istore_n 1, 1) := by decide +kernel
theorem dX10_wipe_5 : decode cX10_wipe 5 = .ok (.aload_n 0, 1) := by decide +kernel
theorem dX10_wipe_6 : decode cX10_wipe 6 = .ok (.iconst 0, 1) := by decide +kernel
theorem dX10_wipe_7 : decode cX10_wipe 7 = .ok (.putfield 67, 3) := by decide +kernel
theorem dX10_wipe_10 : decode cX10_wipe 10 = .ok (.iload_n 1, 1) := by decide +kernel
theorem dX10_wipe_11 : decode cX10_wipe 11 = .ok (.ireturn, 1) := by decide +kernel
theorem dX10_takeHead_0 : decode cX10_takeHead 0 = .ok (.iload_n 1, 1) := by decide +kernel
theorem dX10_takeHead_1 : decode cX10_takeHead 1 = .ok (.iconst 1, 1) := by decide +kernel
theorem dX10_takeHead_2 : decode cX10_takeHead 2 = .ok (.if_icmp .ne 20, 3) := by decide +kernel
theorem dX10_takeHead_5 : decode cX10_takeHead 5 = .ok (.aload_n 0, 1) := by decide +kernel
theorem dX10_takeHead_6 : decode cX10_takeHead 6 = .ok (.getfield 54, 3) := by decide +kernel
theorem dX10_takeHead_9 : decode cX10_takeHead 9 = .ok (.iconst 0, 1) := by decide +kernel
theorem dX10_takeHead_10 : decode cX10_takeHead 10 = .ok (.iload_n 2, 1) := by decide +kernel
theorem dX10_takeHead_11 : decode cX10_takeHead 11 = .ok (.iastore, 1) := by decide +kernel
theorem dX10_takeHead_12 : decode cX10_takeHead 12 = .ok (.iload_n 2, 1) := by decide +kernel
theorem dX10_takeHead_13 : decode cX10_takeHead 13 = .ok (.i2l, 1) := by decide +kernel
theorem dX10_takeHead_14 : decode cX10_takeHead 14 = .ok (.lconst 1, 1) := by decide +kernel
theorem dX10_takeHead_15 : decode cX10_takeHead 15 = .ok (.ldc2_w 70, 3) := by decide +kernel
theorem dX10_takeHead_18 : decode cX10_takeHead 18 = .ok (.invokestatic 61, 3) := by decide +kernel
theorem dX10_takeHead_21 : decode cX10_takeHead 21 = .ok (.ireturn, 1) := by decide +kernel
theorem dX10_takeHead_22 : decode cX10_takeHead 22 = .ok (.iload_n 1, 1) := by decide +kernel
theorem dX10_takeHead_23 : decode cX10_takeHead 23 = .ok (.iconst 2, 1) := by decide +kernel
theorem dX10_takeHead_24 : decode cX10_takeHead 24 = .ok (.if_icmp .ne 18, 3) := by decide +kernel
theorem dX10_takeHead_27 : decode cX10_takeHead 27 = .ok (.aload_n 0, 1) := by decide +kernel
theorem dX10_takeHead_28 : decode cX10_takeHead 28 = .ok (.iload_n 2, 1) := by decide +kernel
theorem dX10_takeHead_29 : decode cX10_takeHead 29 = .ok (.putfield 72, 3) := by decide +kernel
theorem dX10_takeHead_32 : decode cX10_takeHead 32 = .ok (.iload_n 2, 1) := by decide +kernel
theorem dX10_takeHead_33 : decode cX10_takeHead 33 = .ok (.i2l, 1) := by decide +kernel
theorem dX10_takeHead_34 : decode cX10_takeHead 34 = .ok (.lconst 1, 1) := by decide +kernel
theorem dX10_takeHead_35 : decode cX10_takeHead 35 = .ok (.ldc2_w 75, 3) := by decide +kernel
theorem dX10_takeHead_38 : decode cX10_takeHead 38 = .ok (.invokestatic 61, 3) := by decide +kernel
theorem dX10_takeHead_41 : decode cX10_takeHead 41 = .ok (.ireturn, 1) := by decide +kernel
theorem dX10_takeHead_42 : decode cX10_takeHead 42 = .ok (.iload_n 1, 1) := by decide +kernel
theorem dX10_takeHead_43 : decode cX10_takeHead 43 = .ok (.iconst 3, 1) := by decide +kernel
theorem dX10_takeHead_44 : decode cX10_takeHead 44 = .ok (.isub, 1) := by decide +kernel
theorem dX10_takeHead_45 : decode cX10_takeHead 45 = .ok (.iconst 2, 1) := by decide +kernel
theorem dX10_takeHead_46 : decode cX10_takeHead 46 = .ok (.idiv, 1) := by decide +kernel
theorem dX10_takeHead_47 : decode cX10_takeHead 47 = .ok (.istore_n 3, 1) := by decide +kernel
theorem dX10_takeHead_48 : decode cX10_takeHead 48 = .ok (.iload_n 1, 1) := by decide +kernel
theorem dX10_takeHead_49 : decode cX10_takeHead 49 = .ok (.iconst 2, 1) := by decide +kernel
theorem dX10_takeHead_50 : decode cX10_takeHead 50 = .ok (.irem, 1) := by decide +kernel
theorem dX10_takeHead_51 : decode cX10_takeHead 51 = .ok (.iconst 1, 1) := by decide +kernel
theorem dX10_takeHead_52 : decode cX10_takeHead 52 = .ok (.if_icmp .ne 22, 3) := by decide +kernel
theorem dX10_takeHead_55 : decode cX10_takeHead 55 = .ok (.aload_n 0, 1) := by decide +kernel
theorem dX10_takeHead_56 : decode cX10_takeHead 56 = .ok (.getfield 54, 3) := by decide +kernel
theorem dX10_takeHead_59 : decode cX10_takeHead 59 = .ok (.iconst 1, 1) := by decide +kernel
theorem dX10_takeHead_60 : decode cX10_takeHead 60 = .ok (.iload_n 3, 1) := by decide +kernel
theorem dX10_takeHead_61 : decode cX10_takeHead 61 = .ok (.iadd, 1) := by decide +kernel
theorem dX10_takeHead_62 : decode cX10_takeHead 62 = .ok (.iload_n 2, 1) := by decide +kernel
theorem dX10_takeHead_63 : decode cX10_takeHead 63 = .ok (.iastore, 1) := by decide +kernel
theorem dX10_takeHead_64 : decode cX10_takeHead 64 = .ok (.iload_n 2, 1) := by decide +kernel
theorem dX10_takeHead_65 : decode cX10_takeHead 65 = .ok (.i2l, 1) := by decide +kernel
theorem dX10_takeHead_66 : decode cX10_takeHead 66 = .ok (.lconst 1, 1) := by decide +kernel
theorem dX10_takeHead_67 : decode cX10_takeHead 67 = .ok (.ldc2_w 77, 3) := by decide +kernel
theorem dX10_takeHead_70 : decode cX10_takeHead 70 = .ok (.invokestatic 61, 3) := by decide +kernel
theorem dX10_takeHead_73 : decode cX10_takeHead 73 = .ok (.ireturn, 1) := by decide +kernel
theorem dX10_takeHead_74 : decode cX10_takeHead 74 = .ok (.aload_n 0, 1) := by decide +kernel
theorem dX10_takeHead_75 : decode cX10_takeHead 75 = .ok (.getfield 54, 3) := by decide +kernel
theorem dX10_takeHead_78 : decode cX10_takeHead 78 = .ok (.bipush 9, 2) := by decide +kernel
theorem dX10_takeHead_80 : decode cX10_takeHead 80 = .ok (.iload_n 3, 1) := by decide +kernel
theorem dX10_takeHead_81 : decode cX10_takeHead 81 = .ok (.iadd, 1) := by decide +kernel
theorem dX10_takeHead_82 : decode cX10_takeHead 82 = .ok (.iload_n 2, 1) := by decide +kernel
theorem dX10_takeHead_83 : decode cX10_takeHead 83 = .ok (.iastore, 1) := by decide +kernel
theorem dX10_takeHead_84 : decode cX10_takeHead 84 = .ok (.iload_n 2, 1) := by decide +kernel
theorem dX10_takeHead_85 : decode cX10_takeHead 85 = .ok (.i2l, 1) := by decide +kernel
theorem dX10_takeHead_86 : decode cX10_takeHead 86 = .ok (.lconst 1, 1) := by decide +kernel
theorem dX10_takeHead_87 : decode cX10_takeHead 87 = .ok (.ldc2_w 79, 3) := by decide +kernel
theorem dX10_takeHead_90 : decode cX10_takeHead 90 = .ok (.invokestatic 61, 3) := by decide +kernel
theorem dX10_takeHead_93 : decode cX10_takeHead 93 = .ok (.ireturn, 1) := by decide +kernel
theorem dX10_takePart_0 : decode cX10_takePart 0 = .ok (.iload_n 2, 1) := by decide +kernel
theorem dX10_takePart_1 : decode cX10_takePart 1 = .ok (.bipush 48, 2) := by decide +kernel
theorem dX10_takePart_3 : decode cX10_takePart 3 = .ok (.isub, 1) := by decide +kernel
theorem dX10_takePart_4 : decode cX10_takePart 4 = .ok (.istore_n 3, 1) := by decide +kernel
theorem dX10_takePart_5 : decode cX10_takePart 5 = .ok (.iload_n 1, 1) := by decide +kernel
theorem dX10_takePart_6 : decode cX10_takePart 6 = .ok (.ifCond .ne 28, 3) := by decide +kernel
theorem dX10_takePart_9 : decode cX10_takePart 9 = .ok (.iload_n 2, 1) := by decide +kernel
theorem dX10_takePart_10 : decode cX10_takePart 10 = .ok (.bipush 116, 2) := by decide +kernel
theorem dX10_takePart_12 : decode cX10_takePart 12 = .ok (.if_icmp .ne 20, 3) := by decide +kernel
theorem dX10_takePart_15 : decode cX10_takePart 15 = .ok (.aload_n 0, 1) := by decide +kernel
theorem dX10_takePart_16 : decode cX10_takePart 16 = .ok (.getfield 81, 3) := by decide +kernel
theorem dX10_takePart_19 : decode cX10_takePart 19 = .ok (.aload_n 0, 1) := by decide +kernel
theorem dX10_takePart_20 : decode cX10_takePart 20 = .ok (.getfield 72, 3) := by decide +kernel
theorem dX10_takePart_23 : decode cX10_takePart 23 = .ok (.iconst 1, 1) := by decide +kernel
theorem dX10_takePart_24 : decode cX10_takePart 24 = .ok (.isub, 1) := by decide +kernel
theorem dX10_takePart_25 : decode cX10_takePart 25 = .ok (.if_icmp .ge 7, 3) := by decide +kernel
theorem dX10_takePart_28 : decode cX10_takePart 28 = .ok (.iconst 1, 1) := by decide +kernel
theorem dX10_takePart_29 : decode cX10_takePart 29 = .ok (.goto 4, 3) := by decide +kernel
theorem dX10_takePart_32 : decode cX10_takePart 32 = .ok (.iconst 0, 1) := by decide +kernel
theorem dX10_takePart_33 : decode cX10_takePart 33 = .ok (.ireturn, 1) := by decide +kernel
theorem dX10_takePart_34 : decode cX10_takePart 34 = .ok (.iload_n 1, 1) := by decide +kernel
theorem dX10_takePart_35 : decode cX10_takePart 35 = .ok (.iconst 1, 1) := by decide +kernel
theorem dX10_takePart_36 : decode cX10_takePart 36 = .ok (.if_icmp .ne 41, 3) := by decide +kernel
theorem dX10_takePart_39 : decode cX10_takePart 39 = .ok (.aload_n 0, 1) := by decide +kernel
theorem dX10_takePart_40 : decode cX10_takePart 40 = .ok (.iload_n 3, 1) := by decide +kernel
theorem dX10_takePart_41 : decode cX10_takePart 41 = .ok (.putfield 84, 3) := by decide +kernel
theorem dX10_takePart_44 : decode cX10_takePart 44 = .ok (.iload_n 3, 1) := by decide +kernel
theorem dX10_takePart_45 : decode cX10_takePart 45 = .ok (.i2l, 1) := by decide +kernel
theorem dX10_takePart_46 : decode cX10_takePart 46 = .ok (.lconst 1, 1) := by decide +kernel
theorem dX10_takePart_47 : decode cX10_takePart 47 = .ok (.aload_n 0, 1) := by decide +kernel
theorem dX10_takePart_48 : decode cX10_takePart 48 = .ok (.getfield 72, 3) := by decide +kernel
theorem dX10_takePart_51 : decode cX10_takePart 51 = .ok (.iconst 1, 1) := by decide +kernel
theorem dX10_takePart_52 : decode cX10_takePart 52 = .ok (.isub, 1) := by decide +kernel
theorem dX10_takePart_53 : decode cX10_takePart 53 = .ok (.i2l, 1) := by decide +kernel
theorem dX10_takePart_54 : decode cX10_takePart 54 = .ok (.invokestatic 61, 3) := by decide +kernel
theorem dX10_takePart_57 : decode cX10_takePart 57 = .ok (.ifCond .eq 18, 3) := by decide +kernel
theorem dX10_takePart_60 : decode cX10_takePart 60 = .ok (.aload_n 0, 1) := by decide +kernel
theorem dX10_takePart_61 : decode cX10_takePart 61 = .ok (.getfield 87, 3) := by decide +kernel
theorem dX10_takePart_64 : decode cX10_takePart 64 = .ok (.iload_n 3, 1) := by decide +kernel
theorem dX10_takePart_65 : decode cX10_takePart 65 = .ok (.invokestatic 90, 3) := by decide +kernel
theorem dX10_takePart_68 : decode cX10_takePart 68 = .ok (.ifCond .ne 7, 3) := by decide +kernel
theorem dX10_takePart_71 : decode cX10_takePart 71 = .ok (.iconst 1, 1) := by decide +kernel
theorem dX10_takePart_72 : decode cX10_takePart 72 = .ok (.goto 4, 3) := by decide +kernel
theorem dX10_takePart_75 : decode cX10_takePart 75 = .ok (.iconst 0, 1) := by decide +kernel
theorem dX10_takePart_76 : decode cX10_takePart 76 = .ok (.ireturn, 1) := by decide +kernel
theorem dX10_takePart_77 : decode cX10_takePart 77 = .ok (.iload_n 3, 1) := by decide +kernel
theorem dX10_takePart_78 : decode cX10_takePart 78 = .ok (.i2l, 1) := by decide +kernel
theorem dX10_takePart_79 : decode cX10_takePart 79 = .ok (.lconst 0, 1) := by decide +kernel
theorem dX10_takePart_80 : decode cX10_takePart 80 = .ok (.aload_n 0, 1) := by decide +kernel
theorem dX10_takePart_81 : decode cX10_takePart 81 = .ok (.getfield 72, 3) := by decide +kernel
theorem dX10_takePart_84 : decode cX10_takePart 84 = .ok (.iconst 1, 1) := by decide +kernel
theorem dX10_takePart_85 : decode cX10_takePart 85 = .ok (.isub, 1) := by decide +kernel
theorem dX10_takePart_86 : decode cX10_takePart 86 = .ok (.i2l, 1) := by decide +kernel
theorem dX10_takePart_87 : decode cX10_takePart 87 = .ok (.invokestatic 61, 3) := by decide +kernel
theorem dX10_takePart_90 : decode cX10_takePart 90 = .ok (.ifCond .eq 14, 3) := by decide +kernel
theorem dX10_takePart_93 : decode cX10_takePart 93 = .ok (.aload_n 0, 1) := by decide +kernel
theorem dX10_takePart_94 : decode cX10_takePart 94 = .ok (.getfield 87, 3) := by decide +kernel
theorem dX10_takePart_97 : decode cX10_takePart 97 = .ok (.iload_n 3, 1) := by decide +kernel
theorem dX10_takePart_98 : decode cX10_takePart 98 = .ok (.invokestatic 90, 3) := by decide +kernel
theorem dX10_takePart_101 : decode cX10_takePart 101 = .ok (.ifCond .ne 5, 3) := by decide +kernel
theorem dX10_takePart_104 : decode cX10_takePart 104 = .ok (.iconst 0, 1) := by decide +kernel
theorem dX10_takePart_105 : decode cX10_takePart 105 = .ok (.ireturn, 1) := by decide +kernel
theorem dX10_takePart_106 : decode cX10_takePart 106 = .ok (.aload_n 0, 1) := by decide +kernel
theorem dX10_takePart_107 : decode cX10_takePart 107 = .ok (.getfield 54, 3) := by decide +kernel
theorem dX10_takePart_110 : decode cX10_takePart 110 = .ok (.bipush 17, 2) := by decide +kernel
theorem dX10_takePart_112 : decode cX10_takePart 112 = .ok (.aload_n 0, 1) := by decide +kernel
theorem dX10_takePart_113 : decode cX10_takePart 113 = .ok (.getfield 84, 3) := by decide +kernel
theorem dX10_takePart_116 : decode cX10_takePart 116 = .ok (.iadd, 1) := by decide +kernel
theorem dX10_takePart_117 : decode cX10_takePart 117 = .ok (.iload_n 3, 1) := by decide +kernel
theorem dX10_takePart_118 : decode cX10_takePart 118 = .ok (.iastore, 1) := by decide +kernel
theorem dX10_takePart_119 : decode cX10_takePart 119 = .ok (.aload_n 0, 1) := by decide +kernel
theorem dX10_takePart_120 : decode cX10_takePart 120 = .ok (.getfield 54, 3) := by decide +kernel
theorem dX10_takePart_123 : decode cX10_takePart 123 = .ok (.bipush 25, 2) := by decide +kernel
theorem dX10_takePart_125 : decode cX10_takePart 125 = .ok (.aload_n 0, 1) := by decide +kernel
theorem dX10_takePart_126 : decode cX10_takePart 126 = .ok (.getfield 81, 3) := by decide +kernel
theorem dX10_takePart_129 : decode cX10_takePart 129 = .ok (.iadd, 1) := by decide +kernel
theorem dX10_takePart_130 : decode cX10_takePart 130 = .ok (.aload_n 0, 1) := by decide +kernel
theorem dX10_takePart_131 : decode cX10_takePart 131 = .ok (.getfield 84, 3) := by decide +kernel
theorem dX10_takePart_134 : decode cX10_takePart 134 = .ok (.iastore, 1) := by decide +kernel
theorem dX10_takePart_135 : decode cX10_takePart 135 = .ok (.aload_n 0, 1) := by decide +kernel
theorem dX10_takePart_136 : decode cX10_takePart 136 = .ok (.dup, 1) := by decide +kernel
theorem dX10_takePart_137 : decode cX10_takePart 137 = .ok (.getfield 81, 3) := by decide +kernel
theorem dX10_takePart_140 : decode cX10_takePart 140 = .ok (.iconst 1, 1) := by decide +kernel
theorem dX10_takePart_141 : decode cX10_takePart 141 = .ok (.iadd, 1) := by decide +kernel
theorem dX10_takePart_142 : decode cX10_takePart 142 = .ok (.putfield 81, 3) := by decide +kernel
theorem dX10_takePart_145 : decode cX10_takePart 145 = .ok (.aload_n 0, 1) := by decide +kernel
theorem dX10_takePart_146 : decode cX10_takePart 146 = .ok (.dup, 1) := by decide +kernel
theorem dX10_takePart_147 : decode cX10_takePart 147 = .ok (.getfield 87, 3) := by decide +kernel
theorem dX10_takePart_150 : decode cX10_takePart 150 = .ok (.iconst 1, 1) := by decide +kernel
theorem dX10_takePart_151 : decode cX10_takePart 151 = .ok (.aload_n 0, 1) := by decide +kernel
theorem dX10_takePart_152 : decode cX10_takePart 152 = .ok (.getfield 84, 3) := by decide +kernel
theorem dX10_takePart_155 : decode cX10_takePart 155 = .ok (.ishl, 1) := by decide +kernel
theorem dX10_takePart_156 : decode cX10_takePart 156 = .ok (.ior, 1) := by decide +kernel
theorem dX10_takePart_157 : decode cX10_takePart 157 = .ok (.putfield 87, 3) := by decide +kernel
theorem dX10_takePart_160 : decode cX10_takePart 160 = .ok (.iconst 1, 1) := by decide +kernel
theorem dX10_takePart_161 : decode cX10_takePart 161 = .ok (.ireturn, 1) := by decide +kernel
theorem dX10_readText_0 : decode cX10_readText 0 = .ok (.iconst 0, 1) := by decide +kernel
theorem dX10_readText_1 : decode cX10_readText 1 = .ok (.istore_n 1, 1) := by decide +kernel
theorem dX10_readText_2 : decode cX10_readText 2 = .ok (.iload_n 1, 1) := by decide +kernel
theorem dX10_readText_3 : decode cX10_readText 3 = .ok (.bipush 33, 2) := by decide +kernel
theorem dX10_readText_5 : decode cX10_readText 5 = .ok (.if_icmp .ge 16, 3) := by decide +kernel
theorem dX10_readText_8 : decode cX10_readText 8 = .ok (.aload_n 0, 1) := by decide +kernel
theorem dX10_readText_9 : decode cX10_readText 9 = .ok (.getfield 54, 3) := by decide +kernel
theorem dX10_readText_12 : decode cX10_readText 12 = .ok (.iload_n 1, 1) := by decide +kernel
theorem dX10_readText_13 : decode cX10_readText 13 = .ok (.iconst 0, 1) := by decide +kernel
theorem dX10_readText_14 : decode cX10_readText 14 = .ok (.iastore, 1) := by decide +kernel
theorem dX10_readText_15 : decode cX10_readText 15 = .ok (.iinc 1 1, 3) := by decide +kernel
theorem dX10_readText_18 : decode cX10_readText 18 = .ok (.goto (-16), 3) := by decide +kernel
theorem dX10_readText_21 : decode cX10_readText 21 = .ok (.aload_n 0, 1) := by decide +kernel
theorem dX10_readText_22 : decode cX10_readText 22 = .ok (.iconst 1, 1) := by decide +kernel
theorem dX10_readText_23 : decode cX10_readText 23 = .ok (.putfield 72, 3) := by decide +kernel
theorem dX10_readText_26 : decode cX10_readText 26 = .ok (.aload_n 0, 1) := by decide +kernel
theorem dX10_readText_27 : decode cX10_readText 27 = .ok (.iconst 1, 1) := by decide +kernel
theorem dX10_readText_28 : decode cX10_readText 28 = .ok (.putfield 87, 3) := by decide +kernel
theorem dX10_readText_31 : decode cX10_readText 31 = .ok (.aload_n 0, 1) := by decide +kernel
theorem dX10_readText_32 : decode cX10_readText 32 = .ok (.iconst 0, 1) := by decide +kernel
theorem dX10_readText_33 : decode cX10_readText 33 = .ok (.putfield 81, 3) := by decide +kernel
theorem dX10_readText_36 : decode cX10_readText 36 = .ok (.aload_n 0, 1) := by decide +kernel
theorem dX10_readText_37 : decode cX10_readText 37 = .ok (.getfield 67, 3) := by decide +kernel
theorem dX10_readText_40 : decode cX10_readText 40 = .ok (.ifCond .eq 14, 3) := by decide +kernel
theorem dX10_readText_43 : decode cX10_readText 43 = .ok (.aload_n 0, 1) := by decide +kernel
theorem dX10_readText_44 : decode cX10_readText 44 = .ok (.getfield 7, 3) := by decide +kernel
theorem dX10_readText_47 : decode cX10_readText 47 = .ok (.iconst 0, 1) := by decide +kernel
theorem dX10_readText_48 : decode cX10_readText 48 = .ok (.iaload, 1) := by decide +kernel
theorem dX10_readText_49 : decode cX10_readText 49 = .ok (.bipush 84, 2) := by decide +kernel
theorem dX10_readText_51 : decode cX10_readText 51 = .ok (.if_icmp .eq 5, 3) := by decide +kernel
theorem dX10_readText_54 : decode cX10_readText 54 = .ok (.iconst 0, 1) := by decide +kernel
theorem dX10_readText_55 : decode cX10_readText 55 = .ok (.ireturn, 1) := by decide +kernel
theorem dX10_readText_56 : decode cX10_readText 56 = .ok (.iconst 1, 1) := by decide +kernel
theorem dX10_readText_57 : decode cX10_readText 57 = .ok (.istore_n 1, 1) := by decide +kernel
theorem dX10_readText_58 : decode cX10_readText 58 = .ok (.iload_n 1, 1) := by decide +kernel
theorem dX10_readText_59 : decode cX10_readText 59 = .ok (.aload_n 0, 1) := by decide +kernel
theorem dX10_readText_60 : decode cX10_readText 60 = .ok (.getfield 67, 3) := by decide +kernel
theorem dX10_readText_63 : decode cX10_readText 63 = .ok (.if_icmp .ge 78, 3) := by decide +kernel
theorem dX10_readText_66 : decode cX10_readText 66 = .ok (.iconst 3, 1) := by decide +kernel
theorem dX10_readText_67 : decode cX10_readText 67 = .ok (.iconst 2, 1) := by decide +kernel
theorem dX10_readText_68 : decode cX10_readText 68 = .ok (.aload_n 0, 1) := by decide +kernel
theorem dX10_readText_69 : decode cX10_readText 69 = .ok (.getfield 72, 3) := by decide +kernel
theorem dX10_readText_72 : decode cX10_readText 72 = .ok (.imul, 1) := by decide +kernel
theorem dX10_readText_73 : decode cX10_readText 73 = .ok (.iadd, 1) := by decide +kernel
theorem dX10_readText_74 : decode cX10_readText 74 = .ok (.istore_n 2, 1) := by decide +kernel
theorem dX10_readText_75 : decode cX10_readText 75 = .ok (.iload_n 1, 1) := by decide +kernel
theorem dX10_readText_76 : decode cX10_readText 76 = .ok (.iconst 3, 1) := by decide +kernel
theorem dX10_readText_77 : decode cX10_readText 77 = .ok (.if_icmp .lt 8, 3) := by decide +kernel
theorem dX10_readText_80 : decode cX10_readText 80 = .ok (.iload_n 1, 1) := by decide +kernel
theorem dX10_readText_81 : decode cX10_readText 81 = .ok (.iload_n 2, 1) := by decide +kernel
theorem dX10_readText_82 : decode cX10_readText 82 = .ok (.if_icmp .ge 7, 3) := by decide +kernel
theorem dX10_readText_85 : decode cX10_readText 85 = .ok (.iconst 1, 1) := by decide +kernel
theorem dX10_readText_86 : decode cX10_readText 86 = .ok (.goto 4, 3) := by decide +kernel
theorem dX10_readText_89 : decode cX10_readText 89 = .ok (.iconst 0, 1) := by decide +kernel
theorem dX10_readText_90 : decode cX10_readText 90 = .ok (.istore_n 3, 1) := by decide +kernel
theorem dX10_readText_91 : decode cX10_readText 91 = .ok (.iload_n 3, 1) := by decide +kernel
theorem dX10_readText_92 : decode cX10_readText 92 = .ok (.ifCond .eq 23, 3) := by decide +kernel
theorem dX10_readText_95 : decode cX10_readText 95 = .ok (.aload_n 0, 1) := by decide +kernel
theorem dX10_readText_96 : decode cX10_readText 96 = .ok (.iload_n 1, 1) := by decide +kernel
theorem dX10_readText_97 : decode cX10_readText 97 = .ok (.aload_n 0, 1) := by decide +kernel
theorem dX10_readText_98 : decode cX10_readText 98 = .ok (.getfield 7, 3) := by decide +kernel
theorem dX10_readText_101 : decode cX10_readText 101 = .ok (.iload_n 1, 1) := by decide +kernel
theorem dX10_readText_102 : decode cX10_readText 102 = .ok (.iaload, 1) := by decide +kernel
theorem dX10_readText_103 : decode cX10_readText 103 = .ok (.bipush 48, 2) := by decide +kernel
theorem dX10_readText_105 : decode cX10_readText 105 = .ok (.isub, 1) := by decide +kernel
theorem dX10_readText_106 : decode cX10_readText 106 = .ok (.invokevirtual 94, 3) := by decide +kernel
theorem dX10_readText_109 : decode cX10_readText 109 = .ok (.ifCond .eq 24, 3) := by decide +kernel
theorem dX10_readText_112 : decode cX10_readText 112 = .ok (.goto 23, 3) := by decide +kernel
theorem dX10_readText_115 : decode cX10_readText 115 = .ok (.aload_n 0, 1) := by decide +kernel
theorem dX10_readText_116 : decode cX10_readText 116 = .ok (.iload_n 1, 1) := by decide +kernel
theorem dX10_readText_117 : decode cX10_readText 117 = .ok (.iload_n 2, 1) := by decide +kernel
theorem dX10_readText_118 : decode cX10_readText 118 = .ok (.isub, 1) := by decide +kernel
theorem dX10_readText_119 : decode cX10_readText 119 = .ok (.iconst 3, 1) := by decide +kernel
theorem dX10_readText_120 : decode cX10_readText 120 = .ok (.irem, 1) := by decide +kernel
theorem dX10_readText_121 : decode cX10_readText 121 = .ok (.aload_n 0, 1) := by decide +kernel
theorem dX10_readText_122 : decode cX10_readText 122 = .ok (.getfield 7, 3) := by decide +kernel
theorem dX10_readText_125 : decode cX10_readText 125 = .ok (.iload_n 1, 1) := by decide +kernel
theorem dX10_readText_126 : decode cX10_readText 126 = .ok (.iaload, 1) := by decide +kernel
theorem dX10_readText_127 : decode cX10_readText 127 = .ok (.invokevirtual 97, 3) := by decide +kernel
theorem dX10_readText_130 : decode cX10_readText 130 = .ok (.ifCond .ne 5, 3) := by decide +kernel
theorem dX10_readText_133 : decode cX10_readText 133 = .ok (.iload_n 1, 1) := by decide +kernel
theorem dX10_readText_134 : decode cX10_readText 134 = .ok (.ireturn, 1) := by decide +kernel
theorem dX10_readText_135 : decode cX10_readText 135 = .ok (.iinc 1 1, 3) := by decide +kernel
theorem dX10_readText_138 : decode cX10_readText 138 = .ok (.goto (-80), 3) := by decide +kernel
theorem dX10_readText_141 : decode cX10_readText 141 = .ok (.aload_n 0, 1) := by decide +kernel
theorem dX10_readText_142 : decode cX10_readText 142 = .ok (.getfield 67, 3) := by decide +kernel
theorem dX10_readText_145 : decode cX10_readText 145 = .ok (.iconst 2, 1) := by decide +kernel
theorem dX10_readText_146 : decode cX10_readText 146 = .ok (.if_icmp .le 32, 3) := by decide +kernel
theorem dX10_readText_149 : decode cX10_readText 149 = .ok (.aload_n 0, 1) := by decide +kernel
theorem dX10_readText_150 : decode cX10_readText 150 = .ok (.getfield 67, 3) := by decide +kernel
theorem dX10_readText_153 : decode cX10_readText 153 = .ok (.iconst 3, 1) := by decide +kernel
theorem dX10_readText_154 : decode cX10_readText 154 = .ok (.iconst 2, 1) := by decide +kernel
theorem dX10_readText_155 : decode cX10_readText 155 = .ok (.aload_n 0, 1) := by decide +kernel
theorem dX10_readText_156 : decode cX10_readText 156 = .ok (.getfield 72, 3) := by decide +kernel
theorem dX10_readText_159 : decode cX10_readText 159 = .ok (.imul, 1) := by decide +kernel
theorem dX10_readText_160 : decode cX10_readText 160 = .ok (.iadd, 1) := by decide +kernel
theorem dX10_readText_161 : decode cX10_readText 161 = .ok (.iconst 3, 1) := by decide +kernel
theorem dX10_readText_162 : decode cX10_readText 162 = .ok (.aload_n 0, 1) := by decide +kernel
theorem dX10_readText_163 : decode cX10_readText 163 = .ok (.getfield 72, 3) := by decide +kernel
theorem dX10_readText_166 : decode cX10_readText 166 = .ok (.iconst 1, 1) := by decide +kernel
theorem dX10_readText_167 : decode cX10_readText 167 = .ok (.isub, 1) := by decide +kernel
theorem dX10_readText_168 : decode cX10_readText 168 = .ok (.imul, 1) := by decide +kernel
theorem dX10_readText_169 : decode cX10_readText 169 = .ok (.iadd, 1) := by decide +kernel
theorem dX10_readText_170 : decode cX10_readText 170 = .ok (.if_icmp .ne 8, 3) := by decide +kernel
theorem dX10_readText_173 : decode cX10_readText 173 = .ok (.bipush (-9), 2) := by decide +kernel
theorem dX10_readText_175 : decode cX10_readText 175 = .ok (.goto 7, 3) := by decide +kernel
theorem dX10_readText_178 : decode cX10_readText 178 = .ok (.aload_n 0, 1) := by decide +kernel
theorem dX10_readText_179 : decode cX10_readText 179 = .ok (.getfield 67, 3) := by decide +kernel
theorem dX10_readText_182 : decode cX10_readText 182 = .ok (.ireturn, 1) := by decide +kernel
theorem dX10_fault_0 : decode cX10_fault 0 = .ok (.aload_n 0, 1) := by decide +kernel
theorem dX10_fault_1 : decode cX10_fault 1 = .ok (.invokevirtual 100, 3) := by decide +kernel
theorem dX10_fault_4 : decode cX10_fault 4 = .ok (.ireturn, 1) := by decide +kernel
theorem dX10_telling_0 : decode cX10_telling 0 = .ok (.aload_n 0, 1) := by decide +kernel
theorem dX10_telling_1 : decode cX10_telling 1 = .ok (.invokevirtual 100, 3) := by decide +kernel
theorem dX10_telling_4 : decode cX10_telling 4 = .ok (.bipush (-9), 2) := by decide +kernel
theorem dX10_telling_6 : decode cX10_telling 6 = .ok (.if_icmp .eq 6, 3) := by decide +kernel
theorem dX10_telling_9 : decode cX10_telling 9 = .ok (.bipush (-3), 2) := by decide +kernel
theorem dX10_telling_11 : decode cX10_telling 11 = .ok (.ireturn, 1) := by decide +kernel
theorem dX10_telling_12 : decode cX10_telling 12 = .ok (.aload_n 0, 1) := by decide +kernel
theorem dX10_telling_13 : decode cX10_telling 13 = .ok (.aload_n 0, 1) := by decide +kernel
theorem dX10_telling_14 : decode cX10_telling 14 = .ok (.getfield 72, 3) := by decide +kernel
theorem dX10_telling_17 : decode cX10_telling 17 = .ok (.putfield 57, 3) := by decide +kernel
theorem dX10_telling_20 : decode cX10_telling 20 = .ok (.aload_n 0, 1) := by decide +kernel
theorem dX10_telling_21 : decode cX10_telling 21 = .ok (.getfield 54, 3) := by decide +kernel
theorem dX10_telling_24 : decode cX10_telling 24 = .ok (.aload_n 0, 1) := by decide +kernel
theorem dX10_telling_25 : decode cX10_telling 25 = .ok (.getfield 13, 3) := by decide +kernel
theorem dX10_telling_28 : decode cX10_telling 28 = .ok (.invokestatic 104, 3) := by decide +kernel
theorem dX10_telling_31 : decode cX10_telling 31 = .ok (.aload_n 0, 1) := by decide +kernel
theorem dX10_telling_32 : decode cX10_telling 32 = .ok (.iconst 0, 1) := by decide +kernel
theorem dX10_telling_33 : decode cX10_telling 33 = .ok (.putfield 108, 3) := by decide +kernel
theorem dX10_telling_36 : decode cX10_telling 36 = .ok (.aload_n 0, 1) := by decide +kernel
theorem dX10_telling_37 : decode cX10_telling 37 = .ok (.getfield 25, 3) := by decide +kernel
theorem dX10_telling_40 : decode cX10_telling 40 = .ok (.iconst 0, 1) := by decide +kernel
theorem dX10_telling_41 : decode cX10_telling 41 = .ok (.iconst 0, 1) := by decide +kernel
theorem dX10_telling_42 : decode cX10_telling 42 = .ok (.bastore, 1) := by decide +kernel
theorem dX10_telling_43 : decode cX10_telling 43 = .ok (.aload_n 0, 1) := by decide +kernel
theorem dX10_telling_44 : decode cX10_telling 44 = .ok (.getfield 25, 3) := by decide +kernel
theorem dX10_telling_47 : decode cX10_telling 47 = .ok (.iconst 1, 1) := by decide +kernel
theorem dX10_telling_48 : decode cX10_telling 48 = .ok (.iconst 0, 1) := by decide +kernel
theorem dX10_telling_49 : decode cX10_telling 49 = .ok (.bastore, 1) := by decide +kernel
theorem dX10_telling_50 : decode cX10_telling 50 = .ok (.aload_n 0, 1) := by decide +kernel
theorem dX10_telling_51 : decode cX10_telling 51 = .ok (.aload_n 0, 1) := by decide +kernel
theorem dX10_telling_52 : decode cX10_telling 52 = .ok (.getfield 13, 3) := by decide +kernel
theorem dX10_telling_55 : decode cX10_telling 55 = .ok (.invokevirtual 111, 3) := by decide +kernel
theorem dX10_telling_58 : decode cX10_telling 58 = .ok (.ireturn, 1) := by decide +kernel
theorem dX10_layTold_0 : decode cX10_layTold 0 = .ok (.iconst 0, 1) := by decide +kernel
theorem dX10_layTold_1 : decode cX10_layTold 1 = .ok (.istore_n 3, 1) := by decide +kernel
theorem dX10_layTold_2 : decode cX10_layTold 2 = .ok (.iconst 0, 1) := by decide +kernel
theorem dX10_layTold_3 : decode cX10_layTold 3 = .ok (.istore 4, 2) := by decide +kernel
theorem dX10_layTold_5 : decode cX10_layTold 5 = .ok (.iconst 0, 1) := by decide +kernel
theorem dX10_layTold_6 : decode cX10_layTold 6 = .ok (.istore 5, 2) := by decide +kernel
theorem dX10_layTold_8 : decode cX10_layTold 8 = .ok (.iload 5, 2) := by decide +kernel
theorem dX10_layTold_10 : decode cX10_layTold 10 = .ok (.aload_n 1, 1) := by decide +kernel
theorem dX10_layTold_11 : decode cX10_layTold 11 = .ok (.iconst 0, 1) := by decide +kernel
theorem dX10_layTold_12 : decode cX10_layTold 12 = .ok (.iaload, 1) := by decide +kernel
theorem dX10_layTold_13 : decode cX10_layTold 13 = .ok (.if_icmp .ge 122, 3) := by decide +kernel
theorem dX10_layTold_16 : decode cX10_layTold 16 = .ok (.iconst 0, 1) := by decide +kernel
theorem dX10_layTold_17 : decode cX10_layTold 17 = .ok (.istore 6, 2) := by decide +kernel
theorem dX10_layTold_19 : decode cX10_layTold 19 = .ok (.iload 6, 2) := by decide +kernel
theorem dX10_layTold_21 : decode cX10_layTold 21 = .ok (.aload_n 0, 1) := by decide +kernel
theorem dX10_layTold_22 : decode cX10_layTold 22 = .ok (.getfield 57, 3) := by decide +kernel
theorem dX10_layTold_25 : decode cX10_layTold 25 = .ok (.iconst 1, 1) := by decide +kernel
theorem dX10_layTold_26 : decode cX10_layTold 26 = .ok (.isub, 1) := by decide +kernel
theorem dX10_layTold_27 : decode cX10_layTold 27 = .ok (.if_icmp .ge 102, 3) := by decide +kernel
theorem dX10_layTold_30 : decode cX10_layTold 30 = .ok (.aload_n 1, 1) := by decide +kernel
theorem dX10_layTold_31 : decode cX10_layTold 31 = .ok (.bipush 25, 2) := by decide +kernel
theorem dX10_layTold_33 : decode cX10_layTold 33 = .ok (.iload 6, 2) := by decide +kernel
theorem dX10_layTold_35 : decode cX10_layTold 35 = .ok (.iadd, 1) := by decide +kernel
theorem dX10_layTold_36 : decode cX10_layTold 36 = .ok (.iaload, 1) := by decide +kernel
theorem dX10_layTold_37 : decode cX10_layTold 37 = .ok (.istore 7, 2) := by decide +kernel
theorem dX10_layTold_39 : decode cX10_layTold 39 = .ok (.aload_n 1, 1) := by decide +kernel
theorem dX10_layTold_40 : decode cX10_layTold 40 = .ok (.bipush 17, 2) := by decide +kernel
theorem dX10_layTold_42 : decode cX10_layTold 42 = .ok (.iload 7, 2) := by decide +kernel
theorem dX10_layTold_44 : decode cX10_layTold 44 = .ok (.iadd, 1) := by decide +kernel
theorem dX10_layTold_45 : decode cX10_layTold 45 = .ok (.iaload, 1) := by decide +kernel
theorem dX10_layTold_46 : decode cX10_layTold 46 = .ok (.iload_n 2, 1) := by decide +kernel
theorem dX10_layTold_47 : decode cX10_layTold 47 = .ok (.if_icmp .ne 76, 3) := by decide +kernel
theorem dX10_layTold_50 : decode cX10_layTold 50 = .ok (.aload_n 0, 1) := by decide +kernel
theorem dX10_layTold_51 : decode cX10_layTold 51 = .ok (.getfield 35, 3) := by decide +kernel
theorem dX10_layTold_54 : decode cX10_layTold 54 = .ok (.iconst 3, 1) := by decide +kernel
theorem dX10_layTold_55 : decode cX10_layTold 55 = .ok (.iload_n 2, 1) := by decide +kernel
theorem dX10_layTold_56 : decode cX10_layTold 56 = .ok (.imul, 1) := by decide +kernel
theorem dX10_layTold_57 : decode cX10_layTold 57 = .ok (.iload 5, 2) := by decide +kernel
theorem dX10_layTold_59 : decode cX10_layTold 59 = .ok (.iadd, 1) := by decide +kernel
theorem dX10_layTold_60 : decode cX10_layTold 60 = .ok (.iaload, 1) := by decide +kernel
theorem dX10_layTold_61 : decode cX10_layTold 61 = .ok (.istore 8, 2) := by decide +kernel
theorem dX10_layTold_63 : decode cX10_layTold 63 = .ok (.iload_n 3, 1) := by decide +kernel
theorem dX10_layTold_64 : decode cX10_layTold 64 = .ok (.ifCond .eq 29, 3) := by decide +kernel
theorem dX10_layTold_67 : decode cX10_layTold 67 = .ok (.iload 4, 2) := by decide +kernel
theorem dX10_layTold_69 : decode cX10_layTold 69 = .ok (.aload_n 1, 1) := by decide +kernel
theorem dX10_layTold_70 : decode cX10_layTold 70 = .ok (.bipush 9, 2) := by decide +kernel
theorem dX10_layTold_72 : decode cX10_layTold 72 = .ok (.iload_n 2, 1) := by decide +kernel
theorem dX10_layTold_73 : decode cX10_layTold 73 = .ok (.iadd, 1) := by decide +kernel
theorem dX10_layTold_74 : decode cX10_layTold 74 = .ok (.iaload, 1) := by decide +kernel
theorem dX10_layTold_75 : decode cX10_layTold 75 = .ok (.iadd, 1) := by decide +kernel
theorem dX10_layTold_76 : decode cX10_layTold 76 = .ok (.iload 8, 2) := by decide +kernel
theorem dX10_layTold_78 : decode cX10_layTold 78 = .ok (.if_icmp .le 15, 3) := by decide +kernel
theorem dX10_layTold_81 : decode cX10_layTold 81 = .ok (.iload 4, 2) := by decide +kernel
theorem dX10_layTold_83 : decode cX10_layTold 83 = .ok (.aload_n 1, 1) := by decide +kernel
theorem dX10_layTold_84 : decode cX10_layTold 84 = .ok (.bipush 9, 2) := by decide +kernel
theorem dX10_layTold_86 : decode cX10_layTold 86 = .ok (.iload_n 2, 1) := by decide +kernel
theorem dX10_layTold_87 : decode cX10_layTold 87 = .ok (.iadd, 1) := by decide +kernel
theorem dX10_layTold_88 : decode cX10_layTold 88 = .ok (.iaload, 1) := by decide +kernel
theorem dX10_layTold_89 : decode cX10_layTold 89 = .ok (.iadd, 1) := by decide +kernel
theorem dX10_layTold_90 : decode cX10_layTold 90 = .ok (.goto 5, 3) := by decide +kernel
theorem dX10_layTold_93 : decode cX10_layTold 93 = .ok (.iload 8, 2) := by decide +kernel
theorem dX10_layTold_95 : decode cX10_layTold 95 = .ok (.istore 8, 2) := by decide +kernel
theorem dX10_layTold_97 : decode cX10_layTold 97 = .ok (.aload_n 0, 1) := by decide +kernel
theorem dX10_layTold_98 : decode cX10_layTold 98 = .ok (.getfield 35, 3) := by decide +kernel
theorem dX10_layTold_101 : decode cX10_layTold 101 = .ok (.iconst 3, 1) := by decide +kernel
theorem dX10_layTold_102 : decode cX10_layTold 102 = .ok (.iload 7, 2) := by decide +kernel
theorem dX10_layTold_104 : decode cX10_layTold 104 = .ok (.imul, 1) := by decide +kernel
theorem dX10_layTold_105 : decode cX10_layTold 105 = .ok (.iload 5, 2) := by decide +kernel
theorem dX10_layTold_107 : decode cX10_layTold 107 = .ok (.iadd, 1) := by decide +kernel
theorem dX10_layTold_108 : decode cX10_layTold 108 = .ok (.iload 8, 2) := by decide +kernel
theorem dX10_layTold_110 : decode cX10_layTold 110 = .ok (.aload_n 1, 1) := by decide +kernel
theorem dX10_layTold_111 : decode cX10_layTold 111 = .ok (.iconst 1, 1) := by decide +kernel
theorem dX10_layTold_112 : decode cX10_layTold 112 = .ok (.iload_n 2, 1) := by decide +kernel
theorem dX10_layTold_113 : decode cX10_layTold 113 = .ok (.iadd, 1) := by decide +kernel
theorem dX10_layTold_114 : decode cX10_layTold 114 = .ok (.iaload, 1) := by decide +kernel
theorem dX10_layTold_115 : decode cX10_layTold 115 = .ok (.iadd, 1) := by decide +kernel
theorem dX10_layTold_116 : decode cX10_layTold 116 = .ok (.iastore, 1) := by decide +kernel
theorem dX10_layTold_117 : decode cX10_layTold 117 = .ok (.iload 8, 2) := by decide +kernel
theorem dX10_layTold_119 : decode cX10_layTold 119 = .ok (.istore 4, 2) := by decide +kernel
theorem dX10_layTold_121 : decode cX10_layTold 121 = .ok (.iconst 1, 1) := by decide +kernel
theorem dX10_layTold_122 : decode cX10_layTold 122 = .ok (.istore_n 3, 1) := by decide +kernel
theorem dX10_layTold_123 : decode cX10_layTold 123 = .ok (.iinc 6 1, 3) := by decide +kernel
theorem dX10_layTold_126 : decode cX10_layTold 126 = .ok (.goto (-107), 3) := by decide +kernel
theorem dX10_layTold_129 : decode cX10_layTold 129 = .ok (.iinc 5 1, 3) := by decide +kernel
theorem dX10_layTold_132 : decode cX10_layTold 132 = .ok (.goto (-124), 3) := by decide +kernel
theorem dX10_layTold_135 : decode cX10_layTold 135 = .ok (.return_, 1) := by decide +kernel
theorem dX10_layTicks_0 : decode cX10_layTicks 0 = .ok (.iconst 0, 1) := by decide +kernel
theorem dX10_layTicks_1 : decode cX10_layTicks 1 = .ok (.istore_n 2, 1) := by decide +kernel
theorem dX10_layTicks_2 : decode cX10_layTicks 2 = .ok (.iload_n 2, 1) := by decide +kernel
theorem dX10_layTicks_3 : decode cX10_layTicks 3 = .ok (.iconst 3, 1) := by decide +kernel
theorem dX10_layTicks_4 : decode cX10_layTicks 4 = .ok (.if_icmp .ge 16, 3) := by decide +kernel
theorem dX10_layTicks_7 : decode cX10_layTicks 7 = .ok (.aload_n 0, 1) := by decide +kernel
theorem dX10_layTicks_8 : decode cX10_layTicks 8 = .ok (.getfield 35, 3) := by decide +kernel
theorem dX10_layTicks_11 : decode cX10_layTicks 11 = .ok (.iload_n 2, 1) := by decide +kernel
theorem dX10_layTicks_12 : decode cX10_layTicks 12 = .ok (.iconst 0, 1) := by decide +kernel
theorem dX10_layTicks_13 : decode cX10_layTicks 13 = .ok (.iastore, 1) := by decide +kernel
theorem dX10_layTicks_14 : decode cX10_layTicks 14 = .ok (.iinc 2 1, 3) := by decide +kernel
theorem dX10_layTicks_17 : decode cX10_layTicks 17 = .ok (.goto (-15), 3) := by decide +kernel
theorem dX10_layTicks_20 : decode cX10_layTicks 20 = .ok (.aload_n 0, 1) := by decide +kernel
theorem dX10_layTicks_21 : decode cX10_layTicks 21 = .ok (.aload_n 1, 1) := by decide +kernel
theorem dX10_layTicks_22 : decode cX10_layTicks 22 = .ok (.iconst 0, 1) := by decide +kernel
theorem dX10_layTicks_23 : decode cX10_layTicks 23 = .ok (.invokevirtual 115, 3) := by decide +kernel
theorem dX10_layTicks_26 : decode cX10_layTicks 26 = .ok (.iconst 0, 1) := by decide +kernel
theorem dX10_layTicks_27 : decode cX10_layTicks 27 = .ok (.istore_n 2, 1) := by decide +kernel
theorem dX10_layTicks_28 : decode cX10_layTicks 28 = .ok (.iload_n 2, 1) := by decide +kernel
theorem dX10_layTicks_29 : decode cX10_layTicks 29 = .ok (.aload_n 0, 1) := by decide +kernel
theorem dX10_layTicks_30 : decode cX10_layTicks 30 = .ok (.getfield 57, 3) := by decide +kernel
theorem dX10_layTicks_33 : decode cX10_layTicks 33 = .ok (.iconst 1, 1) := by decide +kernel
theorem dX10_layTicks_34 : decode cX10_layTicks 34 = .ok (.isub, 1) := by decide +kernel
theorem dX10_layTicks_35 : decode cX10_layTicks 35 = .ok (.if_icmp .ge 20, 3) := by decide +kernel
theorem dX10_layTicks_38 : decode cX10_layTicks 38 = .ok (.aload_n 0, 1) := by decide +kernel
theorem dX10_layTicks_39 : decode cX10_layTicks 39 = .ok (.aload_n 1, 1) := by decide +kernel
theorem dX10_layTicks_40 : decode cX10_layTicks 40 = .ok (.aload_n 1, 1) := by decide +kernel
theorem dX10_layTicks_41 : decode cX10_layTicks 41 = .ok (.bipush 25, 2) := by decide +kernel
theorem dX10_layTicks_43 : decode cX10_layTicks 43 = .ok (.iload_n 2, 1) := by decide +kernel
theorem dX10_layTicks_44 : decode cX10_layTicks 44 = .ok (.iadd, 1) := by decide +kernel
theorem dX10_layTicks_45 : decode cX10_layTicks 45 = .ok (.iaload, 1) := by decide +kernel
theorem dX10_layTicks_46 : decode cX10_layTicks 46 = .ok (.invokevirtual 115, 3) := by decide +kernel
theorem dX10_layTicks_49 : decode cX10_layTicks 49 = .ok (.iinc 2 1, 3) := by decide +kernel
theorem dX10_layTicks_52 : decode cX10_layTicks 52 = .ok (.goto (-24), 3) := by decide +kernel
theorem dX10_layTicks_55 : decode cX10_layTicks 55 = .ok (.return_, 1) := by decide +kernel
theorem dX10_lastOfNews_0 : decode cX10_lastOfNews 0 = .ok (.aload_n 0, 1) := by decide +kernel
theorem dX10_lastOfNews_1 : decode cX10_lastOfNews 1 = .ok (.aload_n 1, 1) := by decide +kernel
theorem dX10_lastOfNews_2 : decode cX10_lastOfNews 2 = .ok (.invokevirtual 119, 3) := by decide +kernel
theorem dX10_lastOfNews_5 : decode cX10_lastOfNews 5 = .ok (.iconst 0, 1) := by decide +kernel
theorem dX10_lastOfNews_6 : decode cX10_lastOfNews 6 = .ok (.istore_n 3, 1) := by decide +kernel
theorem dX10_lastOfNews_7 : decode cX10_lastOfNews 7 = .ok (.iconst 1, 1) := by decide +kernel
theorem dX10_lastOfNews_8 : decode cX10_lastOfNews 8 = .ok (.istore 4, 2) := by decide +kernel
theorem dX10_lastOfNews_10 : decode cX10_lastOfNews 10 = .ok (.iload 4, 2) := by decide +kernel
theorem dX10_lastOfNews_12 : decode cX10_lastOfNews 12 = .ok (.aload_n 0, 1) := by decide +kernel
theorem dX10_lastOfNews_13 : decode cX10_lastOfNews 13 = .ok (.getfield 57, 3) := by decide +kernel
theorem dX10_lastOfNews_16 : decode cX10_lastOfNews 16 = .ok (.if_icmp .ge 40, 3) := by decide +kernel
theorem dX10_lastOfNews_19 : decode cX10_lastOfNews 19 = .ok (.aload_n 0, 1) := by decide +kernel
theorem dX10_lastOfNews_20 : decode cX10_lastOfNews 20 = .ok (.getfield 35, 3) := by decide +kernel
theorem dX10_lastOfNews_23 : decode cX10_lastOfNews 23 = .ok (.iconst 3, 1) := by decide +kernel
theorem dX10_lastOfNews_24 : decode cX10_lastOfNews 24 = .ok (.iload 4, 2) := by decide +kernel
theorem dX10_lastOfNews_26 : decode cX10_lastOfNews 26 = .ok (.imul, 1) := by decide +kernel
theorem dX10_lastOfNews_27 : decode cX10_lastOfNews 27 = .ok (.iload_n 2, 1) := by decide +kernel
theorem dX10_lastOfNews_28 : decode cX10_lastOfNews 28 = .ok (.iadd, 1) := by decide +kernel
theorem dX10_lastOfNews_29 : decode cX10_lastOfNews 29 = .ok (.iaload, 1) := by decide +kernel
theorem dX10_lastOfNews_30 : decode cX10_lastOfNews 30 = .ok (.iload_n 3, 1) := by decide +kernel
theorem dX10_lastOfNews_31 : decode cX10_lastOfNews 31 = .ok (.if_icmp .le 17, 3) := by decide +kernel
theorem dX10_lastOfNews_34 : decode cX10_lastOfNews 34 = .ok (.aload_n 0, 1) := by decide +kernel
theorem dX10_lastOfNews_35 : decode cX10_lastOfNews 35 = .ok (.getfield 35, 3) := by decide +kernel
theorem dX10_lastOfNews_38 : decode cX10_lastOfNews 38 = .ok (.iconst 3, 1) := by decide +kernel
theorem dX10_lastOfNews_39 : decode cX10_lastOfNews 39 = .ok (.iload 4, 2) := by decide +kernel
theorem dX10_lastOfNews_41 : decode cX10_lastOfNews 41 = .ok (.imul, 1) := by decide +kernel
theorem dX10_lastOfNews_42 : decode cX10_lastOfNews 42 = .ok (.iload_n 2, 1) := by decide +kernel
theorem dX10_lastOfNews_43 : decode cX10_lastOfNews 43 = .ok (.iadd, 1) := by decide +kernel
theorem dX10_lastOfNews_44 : decode cX10_lastOfNews 44 = .ok (.iaload, 1) := by decide +kernel
theorem dX10_lastOfNews_45 : decode cX10_lastOfNews 45 = .ok (.goto 4, 3) := by decide +kernel
theorem dX10_lastOfNews_48 : decode cX10_lastOfNews 48 = .ok (.iload_n 3, 1) := by decide +kernel
theorem dX10_lastOfNews_49 : decode cX10_lastOfNews 49 = .ok (.istore_n 3, 1) := by decide +kernel
theorem dX10_lastOfNews_50 : decode cX10_lastOfNews 50 = .ok (.iinc 4 1, 3) := by decide +kernel
theorem dX10_lastOfNews_53 : decode cX10_lastOfNews 53 = .ok (.goto (-43), 3) := by decide +kernel
theorem dX10_lastOfNews_56 : decode cX10_lastOfNews 56 = .ok (.iload_n 3, 1) := by decide +kernel
theorem dX10_lastOfNews_57 : decode cX10_lastOfNews 57 = .ok (.ireturn, 1) := by decide +kernel
theorem dX10_lastOf_0 : decode cX10_lastOf 0 = .ok (.iconst 0, 1) := by decide +kernel
theorem dX10_lastOf_1 : decode cX10_lastOf 1 = .ok (.istore_n 2, 1) := by decide +kernel
theorem dX10_lastOf_2 : decode cX10_lastOf 2 = .ok (.iconst 0, 1) := by decide +kernel
theorem dX10_lastOf_3 : decode cX10_lastOf 3 = .ok (.istore_n 3, 1) := by decide +kernel
theorem dX10_lastOf_4 : decode cX10_lastOf 4 = .ok (.iload_n 3, 1) := by decide +kernel
theorem dX10_lastOf_5 : decode cX10_lastOf 5 = .ok (.aload_n 1, 1) := by decide +kernel
theorem dX10_lastOf_6 : decode cX10_lastOf 6 = .ok (.iconst 0, 1) := by decide +kernel
theorem dX10_lastOf_7 : decode cX10_lastOf 7 = .ok (.iaload, 1) := by decide +kernel
theorem dX10_lastOf_8 : decode cX10_lastOf 8 = .ok (.if_icmp .ge 30, 3) := by decide +kernel
theorem dX10_lastOf_11 : decode cX10_lastOf 11 = .ok (.aload_n 0, 1) := by decide +kernel
theorem dX10_lastOf_12 : decode cX10_lastOf 12 = .ok (.aload_n 1, 1) := by decide +kernel
theorem dX10_lastOf_13 : decode cX10_lastOf 13 = .ok (.iload_n 3, 1) := by decide +kernel
theorem dX10_lastOf_14 : decode cX10_lastOf 14 = .ok (.invokevirtual 123, 3) := by decide +kernel
theorem dX10_lastOf_17 : decode cX10_lastOf 17 = .ok (.istore 4, 2) := by decide +kernel
theorem dX10_lastOf_19 : decode cX10_lastOf 19 = .ok (.iload 4, 2) := by decide +kernel
theorem dX10_lastOf_21 : decode cX10_lastOf 21 = .ok (.iload_n 2, 1) := by decide +kernel
theorem dX10_lastOf_22 : decode cX10_lastOf 22 = .ok (.if_icmp .le 8, 3) := by decide +kernel
theorem dX10_lastOf_25 : decode cX10_lastOf 25 = .ok (.iload 4, 2) := by decide +kernel
theorem dX10_lastOf_27 : decode cX10_lastOf 27 = .ok (.goto 4, 3) := by decide +kernel
theorem dX10_lastOf_30 : decode cX10_lastOf 30 = .ok (.iload_n 2, 1) := by decide +kernel
theorem dX10_lastOf_31 : decode cX10_lastOf 31 = .ok (.istore_n 2, 1) := by decide +kernel
theorem dX10_lastOf_32 : decode cX10_lastOf 32 = .ok (.iinc 3 1, 3) := by decide +kernel
theorem dX10_lastOf_35 : decode cX10_lastOf 35 = .ok (.goto (-31), 3) := by decide +kernel
theorem dX10_lastOf_38 : decode cX10_lastOf 38 = .ok (.iload_n 2, 1) := by decide +kernel
theorem dX10_lastOf_39 : decode cX10_lastOf 39 = .ok (.ireturn, 1) := by decide +kernel
theorem dX10_nextBegin_0 : decode cX10_nextBegin 0 = .ok (.aload_n 0, 1) := by decide +kernel
theorem dX10_nextBegin_1 : decode cX10_nextBegin 1 = .ok (.getfield 38, 3) := by decide +kernel
theorem dX10_nextBegin_4 : decode cX10_nextBegin 4 = .ok (.iload_n 2, 1) := by decide +kernel
theorem dX10_nextBegin_5 : decode cX10_nextBegin 5 = .ok (.iaload, 1) := by decide +kernel
theorem dX10_nextBegin_6 : decode cX10_nextBegin 6 = .ok (.aload_n 0, 1) := by decide +kernel
theorem dX10_nextBegin_7 : decode cX10_nextBegin 7 = .ok (.getfield 41, 3) := by decide +kernel
theorem dX10_nextBegin_10 : decode cX10_nextBegin 10 = .ok (.iload_n 2, 1) := by decide +kernel
theorem dX10_nextBegin_11 : decode cX10_nextBegin 11 = .ok (.iaload, 1) := by decide +kernel
theorem dX10_nextBegin_12 : decode cX10_nextBegin 12 = .ok (.aload_n 1, 1) := by decide +kernel
theorem dX10_nextBegin_13 : decode cX10_nextBegin 13 = .ok (.bipush 9, 2) := by decide +kernel
theorem dX10_nextBegin_15 : decode cX10_nextBegin 15 = .ok (.iload_n 2, 1) := by decide +kernel
theorem dX10_nextBegin_16 : decode cX10_nextBegin 16 = .ok (.iadd, 1) := by decide +kernel
theorem dX10_nextBegin_17 : decode cX10_nextBegin 17 = .ok (.iaload, 1) := by decide +kernel
theorem dX10_nextBegin_18 : decode cX10_nextBegin 18 = .ok (.imul, 1) := by decide +kernel
theorem dX10_nextBegin_19 : decode cX10_nextBegin 19 = .ok (.iadd, 1) := by decide +kernel
theorem dX10_nextBegin_20 : decode cX10_nextBegin 20 = .ok (.ireturn, 1) := by decide +kernel
theorem dX10_beginOne_0 : decode cX10_beginOne 0 = .ok (.iconst 0, 1) := by decide +kernel
theorem dX10_beginOne_1 : decode cX10_beginOne 1 = .ok (.istore_n 1, 1) := by decide +kernel
theorem dX10_beginOne_2 : decode cX10_beginOne 2 = .ok (.iload_n 1, 1) := by decide +kernel
theorem dX10_beginOne_3 : decode cX10_beginOne 3 = .ok (.bipush 8, 2) := by decide +kernel
theorem dX10_beginOne_5 : decode cX10_beginOne 5 = .ok (.if_icmp .ge 32, 3) := by decide +kernel
theorem dX10_beginOne_8 : decode cX10_beginOne 8 = .ok (.aload_n 0, 1) := by decide +kernel
theorem dX10_beginOne_9 : decode cX10_beginOne 9 = .ok (.getfield 38, 3) := by decide +kernel
theorem dX10_beginOne_12 : decode cX10_beginOne 12 = .ok (.iload_n 1, 1) := by decide +kernel
theorem dX10_beginOne_13 : decode cX10_beginOne 13 = .ok (.iload_n 1, 1) := by decide +kernel
theorem dX10_beginOne_14 : decode cX10_beginOne 14 = .ok (.ifCond .ne 7, 3) := by decide +kernel
theorem dX10_beginOne_17 : decode cX10_beginOne 17 = .ok (.iconst 0, 1) := by decide +kernel
theorem dX10_beginOne_18 : decode cX10_beginOne 18 = .ok (.goto 5, 3) := by decide +kernel
theorem dX10_beginOne_21 : decode cX10_beginOne 21 = .ok (.bipush (-9), 2) := by decide +kernel
theorem dX10_beginOne_23 : decode cX10_beginOne 23 = .ok (.iastore, 1) := by decide +kernel
theorem dX10_beginOne_24 : decode cX10_beginOne 24 = .ok (.aload_n 0, 1) := by decide +kernel
theorem dX10_beginOne_25 : decode cX10_beginOne 25 = .ok (.getfield 41, 3) := by decide +kernel
theorem dX10_beginOne_28 : decode cX10_beginOne 28 = .ok (.iload_n 1, 1) := by decide +kernel
theorem dX10_beginOne_29 : decode cX10_beginOne 29 = .ok (.iconst 0, 1) := by decide +kernel
theorem dX10_beginOne_30 : decode cX10_beginOne 30 = .ok (.iastore, 1) := by decide +kernel
theorem dX10_beginOne_31 : decode cX10_beginOne 31 = .ok (.iinc 1 1, 3) := by decide +kernel
theorem dX10_beginOne_34 : decode cX10_beginOne 34 = .ok (.goto (-32), 3) := by decide +kernel
theorem dX10_beginOne_37 : decode cX10_beginOne 37 = .ok (.return_, 1) := by decide +kernel
theorem dX10_tell_0 : decode cX10_tell 0 = .ok (.aload_n 0, 1) := by decide +kernel
theorem dX10_tell_1 : decode cX10_tell 1 = .ok (.getfield 38, 3) := by decide +kernel
theorem dX10_tell_4 : decode cX10_tell 4 = .ok (.iload_n 3, 1) := by decide +kernel
theorem dX10_tell_5 : decode cX10_tell 5 = .ok (.aload_n 0, 1) := by decide +kernel
theorem dX10_tell_6 : decode cX10_tell 6 = .ok (.aload_n 1, 1) := by decide +kernel
theorem dX10_tell_7 : decode cX10_tell 7 = .ok (.iload_n 2, 1) := by decide +kernel
theorem dX10_tell_8 : decode cX10_tell 8 = .ok (.invokevirtual 127, 3) := by decide +kernel
theorem dX10_tell_11 : decode cX10_tell 11 = .ok (.aload_n 1, 1) := by decide +kernel
theorem dX10_tell_12 : decode cX10_tell 12 = .ok (.iconst 1, 1) := by decide +kernel
theorem dX10_tell_13 : decode cX10_tell 13 = .ok (.iload_n 2, 1) := by decide +kernel
theorem dX10_tell_14 : decode cX10_tell 14 = .ok (.iadd, 1) := by decide +kernel
theorem dX10_tell_15 : decode cX10_tell 15 = .ok (.iaload, 1) := by decide +kernel
theorem dX10_tell_16 : decode cX10_tell 16 = .ok (.iadd, 1) := by decide +kernel
theorem dX10_tell_17 : decode cX10_tell 17 = .ok (.iastore, 1) := by decide +kernel
theorem dX10_tell_18 : decode cX10_tell 18 = .ok (.aload_n 0, 1) := by decide +kernel
theorem dX10_tell_19 : decode cX10_tell 19 = .ok (.getfield 41, 3) := by decide +kernel
theorem dX10_tell_22 : decode cX10_tell 22 = .ok (.iload_n 2, 1) := by decide +kernel
theorem dX10_tell_23 : decode cX10_tell 23 = .ok (.dup2, 1) := by decide +kernel
theorem dX10_tell_24 : decode cX10_tell 24 = .ok (.iaload, 1) := by decide +kernel
theorem dX10_tell_25 : decode cX10_tell 25 = .ok (.iconst 1, 1) := by decide +kernel
theorem dX10_tell_26 : decode cX10_tell 26 = .ok (.iadd, 1) := by decide +kernel
theorem dX10_tell_27 : decode cX10_tell 27 = .ok (.iastore, 1) := by decide +kernel
theorem dX10_tell_28 : decode cX10_tell 28 = .ok (.aload_n 0, 1) := by decide +kernel
theorem dX10_tell_29 : decode cX10_tell 29 = .ok (.getfield 38, 3) := by decide +kernel
theorem dX10_tell_32 : decode cX10_tell 32 = .ok (.iload_n 3, 1) := by decide +kernel
theorem dX10_tell_33 : decode cX10_tell 33 = .ok (.iaload, 1) := by decide +kernel
theorem dX10_tell_34 : decode cX10_tell 34 = .ok (.ireturn, 1) := by decide +kernel
theorem dX10_soonest_0 : decode cX10_soonest 0 = .ok (.iconst 0, 1) := by decide +kernel
theorem dX10_soonest_1 : decode cX10_soonest 1 = .ok (.istore_n 2, 1) := by decide +kernel
theorem dX10_soonest_2 : decode cX10_soonest 2 = .ok (.iconst 1, 1) := by decide +kernel
theorem dX10_soonest_3 : decode cX10_soonest 3 = .ok (.istore_n 3, 1) := by decide +kernel
theorem dX10_soonest_4 : decode cX10_soonest 4 = .ok (.iload_n 3, 1) := by decide +kernel
theorem dX10_soonest_5 : decode cX10_soonest 5 = .ok (.aload_n 0, 1) := by decide +kernel
theorem dX10_soonest_6 : decode cX10_soonest 6 = .ok (.getfield 57, 3) := by decide +kernel
theorem dX10_soonest_9 : decode cX10_soonest 9 = .ok (.if_icmp .ge 65, 3) := by decide +kernel
theorem dX10_soonest_12 : decode cX10_soonest 12 = .ok (.aload_n 0, 1) := by decide +kernel
theorem dX10_soonest_13 : decode cX10_soonest 13 = .ok (.getfield 38, 3) := by decide +kernel
theorem dX10_soonest_16 : decode cX10_soonest 16 = .ok (.iload_n 3, 1) := by decide +kernel
theorem dX10_soonest_17 : decode cX10_soonest 17 = .ok (.iaload, 1) := by decide +kernel
theorem dX10_soonest_18 : decode cX10_soonest 18 = .ok (.bipush (-9), 2) := by decide +kernel
theorem dX10_soonest_20 : decode cX10_soonest 20 = .ok (.if_icmp .eq 34, 3) := by decide +kernel
theorem dX10_soonest_23 : decode cX10_soonest 23 = .ok (.aload_n 0, 1) := by decide +kernel
theorem dX10_soonest_24 : decode cX10_soonest 24 = .ok (.aload_n 1, 1) := by decide +kernel
theorem dX10_soonest_25 : decode cX10_soonest 25 = .ok (.iload_n 3, 1) := by decide +kernel
theorem dX10_soonest_26 : decode cX10_soonest 26 = .ok (.invokevirtual 127, 3) := by decide +kernel
theorem dX10_soonest_29 : decode cX10_soonest 29 = .ok (.aload_n 1, 1) := by decide +kernel
theorem dX10_soonest_30 : decode cX10_soonest 30 = .ok (.iconst 1, 1) := by decide +kernel
theorem dX10_soonest_31 : decode cX10_soonest 31 = .ok (.iload_n 3, 1) := by decide +kernel
theorem dX10_soonest_32 : decode cX10_soonest 32 = .ok (.iadd, 1) := by decide +kernel
theorem dX10_soonest_33 : decode cX10_soonest 33 = .ok (.iaload, 1) := by decide +kernel
theorem dX10_soonest_34 : decode cX10_soonest 34 = .ok (.iadd, 1) := by decide +kernel
theorem dX10_soonest_35 : decode cX10_soonest 35 = .ok (.aload_n 0, 1) := by decide +kernel
theorem dX10_soonest_36 : decode cX10_soonest 36 = .ok (.aload_n 1, 1) := by decide +kernel
theorem dX10_soonest_37 : decode cX10_soonest 37 = .ok (.iload_n 2, 1) := by decide +kernel
theorem dX10_soonest_38 : decode cX10_soonest 38 = .ok (.invokevirtual 127, 3) := by decide +kernel
theorem dX10_soonest_41 : decode cX10_soonest 41 = .ok (.aload_n 1, 1) := by decide +kernel
theorem dX10_soonest_42 : decode cX10_soonest 42 = .ok (.iconst 1, 1) := by decide +kernel
theorem dX10_soonest_43 : decode cX10_soonest 43 = .ok (.iload_n 2, 1) := by decide +kernel
theorem dX10_soonest_44 : decode cX10_soonest 44 = .ok (.iadd, 1) := by decide +kernel
theorem dX10_soonest_45 : decode cX10_soonest 45 = .ok (.iaload, 1) := by decide +kernel
theorem dX10_soonest_46 : decode cX10_soonest 46 = .ok (.iadd, 1) := by decide +kernel
theorem dX10_soonest_47 : decode cX10_soonest 47 = .ok (.if_icmp .ge 7, 3) := by decide +kernel
theorem dX10_soonest_50 : decode cX10_soonest 50 = .ok (.iconst 1, 1) := by decide +kernel
theorem dX10_soonest_51 : decode cX10_soonest 51 = .ok (.goto 4, 3) := by decide +kernel
theorem dX10_soonest_54 : decode cX10_soonest 54 = .ok (.iconst 0, 1) := by decide +kernel
theorem dX10_soonest_55 : decode cX10_soonest 55 = .ok (.istore 4, 2) := by decide +kernel
theorem dX10_soonest_57 : decode cX10_soonest 57 = .ok (.iload 4, 2) := by decide +kernel
theorem dX10_soonest_59 : decode cX10_soonest 59 = .ok (.ifCond .eq 7, 3) := by decide +kernel
theorem dX10_soonest_62 : decode cX10_soonest 62 = .ok (.iload_n 3, 1) := by decide +kernel
theorem dX10_soonest_63 : decode cX10_soonest 63 = .ok (.goto 4, 3) := by decide +kernel
theorem dX10_soonest_66 : decode cX10_soonest 66 = .ok (.iload_n 2, 1) := by decide +kernel
theorem dX10_soonest_67 : decode cX10_soonest 67 = .ok (.istore_n 2, 1) := by decide +kernel
theorem dX10_soonest_68 : decode cX10_soonest 68 = .ok (.iinc 3 1, 3) := by decide +kernel
theorem dX10_soonest_71 : decode cX10_soonest 71 = .ok (.goto (-67), 3) := by decide +kernel
theorem dX10_soonest_74 : decode cX10_soonest 74 = .ok (.iload_n 2, 1) := by decide +kernel
theorem dX10_soonest_75 : decode cX10_soonest 75 = .ok (.ireturn, 1) := by decide +kernel
theorem dX10_quickest_0 : decode cX10_quickest 0 = .ok (.bipush (-9), 2) := by decide +kernel
theorem dX10_quickest_2 : decode cX10_quickest 2 = .ok (.istore_n 2, 1) := by decide +kernel
theorem dX10_quickest_3 : decode cX10_quickest 3 = .ok (.iconst 1, 1) := by decide +kernel
theorem dX10_quickest_4 : decode cX10_quickest 4 = .ok (.istore_n 3, 1) := by decide +kernel
theorem dX10_quickest_5 : decode cX10_quickest 5 = .ok (.iload_n 3, 1) := by decide +kernel
theorem dX10_quickest_6 : decode cX10_quickest 6 = .ok (.aload_n 0, 1) := by decide +kernel
theorem dX10_quickest_7 : decode cX10_quickest 7 = .ok (.getfield 57, 3) := by decide +kernel
theorem dX10_quickest_10 : decode cX10_quickest 10 = .ok (.if_icmp .ge 69, 3) := by decide +kernel
theorem dX10_quickest_13 : decode cX10_quickest 13 = .ok (.aload_n 0, 1) := by decide +kernel
theorem dX10_quickest_14 : decode cX10_quickest 14 = .ok (.getfield 38, 3) := by decide +kernel
theorem dX10_quickest_17 : decode cX10_quickest 17 = .ok (.iload_n 3, 1) := by decide +kernel
theorem dX10_quickest_18 : decode cX10_quickest 18 = .ok (.iaload, 1) := by decide +kernel
theorem dX10_quickest_19 : decode cX10_quickest 19 = .ok (.bipush (-9), 2) := by decide +kernel
theorem dX10_quickest_21 : decode cX10_quickest 21 = .ok (.if_icmp .ne 52, 3) := by decide +kernel
theorem dX10_quickest_24 : decode cX10_quickest 24 = .ok (.bipush 10, 2) := by decide +kernel
theorem dX10_quickest_26 : decode cX10_quickest 26 = .ok (.aload_n 1, 1) := by decide +kernel
theorem dX10_quickest_27 : decode cX10_quickest 27 = .ok (.iconst 1, 1) := by decide +kernel
theorem dX10_quickest_28 : decode cX10_quickest 28 = .ok (.iload_n 3, 1) := by decide +kernel
theorem dX10_quickest_29 : decode cX10_quickest 29 = .ok (.iadd, 1) := by decide +kernel
theorem dX10_quickest_30 : decode cX10_quickest 30 = .ok (.iaload, 1) := by decide +kernel
theorem dX10_quickest_31 : decode cX10_quickest 31 = .ok (.imul, 1) := by decide +kernel
theorem dX10_quickest_32 : decode cX10_quickest 32 = .ok (.aload_n 1, 1) := by decide +kernel
theorem dX10_quickest_33 : decode cX10_quickest 33 = .ok (.bipush 9, 2) := by decide +kernel
theorem dX10_quickest_35 : decode cX10_quickest 35 = .ok (.iload_n 3, 1) := by decide +kernel
theorem dX10_quickest_36 : decode cX10_quickest 36 = .ok (.iadd, 1) := by decide +kernel
theorem dX10_quickest_37 : decode cX10_quickest 37 = .ok (.iaload, 1) := by decide +kernel
theorem dX10_quickest_38 : decode cX10_quickest 38 = .ok (.iadd, 1) := by decide +kernel
theorem dX10_quickest_39 : decode cX10_quickest 39 = .ok (.istore 4, 2) := by decide +kernel
theorem dX10_quickest_41 : decode cX10_quickest 41 = .ok (.iload_n 2, 1) := by decide +kernel
theorem dX10_quickest_42 : decode cX10_quickest 42 = .ok (.bipush (-9), 2) := by decide +kernel
theorem dX10_quickest_44 : decode cX10_quickest 44 = .ok (.if_icmp .eq 23, 3) := by decide +kernel
theorem dX10_quickest_47 : decode cX10_quickest 47 = .ok (.iload 4, 2) := by decide +kernel
theorem dX10_quickest_49 : decode cX10_quickest 49 = .ok (.bipush 10, 2) := by decide +kernel
theorem dX10_quickest_51 : decode cX10_quickest 51 = .ok (.aload_n 1, 1) := by decide +kernel
theorem dX10_quickest_52 : decode cX10_quickest 52 = .ok (.iconst 1, 1) := by decide +kernel
theorem dX10_quickest_53 : decode cX10_quickest 53 = .ok (.iload_n 2, 1) := by decide +kernel
theorem dX10_quickest_54 : decode cX10_quickest 54 = .ok (.iadd, 1) := by decide +kernel
theorem dX10_quickest_55 : decode cX10_quickest 55 = .ok (.iaload, 1) := by decide +kernel
theorem dX10_quickest_56 : decode cX10_quickest 56 = .ok (.imul, 1) := by decide +kernel
theorem dX10_quickest_57 : decode cX10_quickest 57 = .ok (.aload_n 1, 1) := by decide +kernel
theorem dX10_quickest_58 : decode cX10_quickest 58 = .ok (.bipush 9, 2) := by decide +kernel
theorem dX10_quickest_60 : decode cX10_quickest 60 = .ok (.iload_n 2, 1) := by decide +kernel
theorem dX10_quickest_61 : decode cX10_quickest 61 = .ok (.iadd, 1) := by decide +kernel
theorem dX10_quickest_62 : decode cX10_quickest 62 = .ok (.iaload, 1) := by decide +kernel
theorem dX10_quickest_63 : decode cX10_quickest 63 = .ok (.iadd, 1) := by decide +kernel
theorem dX10_quickest_64 : decode cX10_quickest 64 = .ok (.if_icmp .ge 7, 3) := by decide +kernel
theorem dX10_quickest_67 : decode cX10_quickest 67 = .ok (.iload_n 3, 1) := by decide +kernel
theorem dX10_quickest_68 : decode cX10_quickest 68 = .ok (.goto 4, 3) := by decide +kernel
theorem dX10_quickest_71 : decode cX10_quickest 71 = .ok (.iload_n 2, 1) := by decide +kernel
theorem dX10_quickest_72 : decode cX10_quickest 72 = .ok (.istore_n 2, 1) := by decide +kernel
theorem dX10_quickest_73 : decode cX10_quickest 73 = .ok (.iinc 3 1, 3) := by decide +kernel
theorem dX10_quickest_76 : decode cX10_quickest 76 = .ok (.goto (-71), 3) := by decide +kernel
theorem dX10_quickest_79 : decode cX10_quickest 79 = .ok (.iload_n 2, 1) := by decide +kernel
theorem dX10_quickest_80 : decode cX10_quickest 80 = .ok (.ireturn, 1) := by decide +kernel
theorem dX10_quick_0 : decode cX10_quick 0 = .ok (.aload_n 0, 1) := by decide +kernel
theorem dX10_quick_1 : decode cX10_quick 1 = .ok (.invokevirtual 130, 3) := by decide +kernel
theorem dX10_quick_4 : decode cX10_quick 4 = .ok (.iconst 0, 1) := by decide +kernel
theorem dX10_quick_5 : decode cX10_quick 5 = .ok (.istore_n 2, 1) := by decide +kernel
theorem dX10_quick_6 : decode cX10_quick 6 = .ok (.iload_n 2, 1) := by decide +kernel
theorem dX10_quick_7 : decode cX10_quick 7 = .ok (.aload_n 0, 1) := by decide +kernel
theorem dX10_quick_8 : decode cX10_quick 8 = .ok (.getfield 57, 3) := by decide +kernel
theorem dX10_quick_11 : decode cX10_quick 11 = .ok (.iconst 1, 1) := by decide +kernel
theorem dX10_quick_12 : decode cX10_quick 12 = .ok (.isub, 1) := by decide +kernel
theorem dX10_quick_13 : decode cX10_quick 13 = .ok (.if_icmp .ge 48, 3) := by decide +kernel
theorem dX10_quick_16 : decode cX10_quick 16 = .ok (.aload_n 0, 1) := by decide +kernel
theorem dX10_quick_17 : decode cX10_quick 17 = .ok (.aload_n 1, 1) := by decide +kernel
theorem dX10_quick_18 : decode cX10_quick 18 = .ok (.invokevirtual 133, 3) := by decide +kernel
theorem dX10_quick_21 : decode cX10_quick 21 = .ok (.istore_n 3, 1) := by decide +kernel
theorem dX10_quick_22 : decode cX10_quick 22 = .ok (.aload_n 0, 1) := by decide +kernel
theorem dX10_quick_23 : decode cX10_quick 23 = .ok (.aload_n 1, 1) := by decide +kernel
theorem dX10_quick_24 : decode cX10_quick 24 = .ok (.invokevirtual 136, 3) := by decide +kernel
theorem dX10_quick_27 : decode cX10_quick 27 = .ok (.istore 4, 2) := by decide +kernel
theorem dX10_quick_29 : decode cX10_quick 29 = .ok (.aload_n 1, 1) := by decide +kernel
theorem dX10_quick_30 : decode cX10_quick 30 = .ok (.bipush 17, 2) := by decide +kernel
theorem dX10_quick_32 : decode cX10_quick 32 = .ok (.iload 4, 2) := by decide +kernel
theorem dX10_quick_34 : decode cX10_quick 34 = .ok (.iadd, 1) := by decide +kernel
theorem dX10_quick_35 : decode cX10_quick 35 = .ok (.iload_n 3, 1) := by decide +kernel
theorem dX10_quick_36 : decode cX10_quick 36 = .ok (.iastore, 1) := by decide +kernel
theorem dX10_quick_37 : decode cX10_quick 37 = .ok (.aload_n 1, 1) := by decide +kernel
theorem dX10_quick_38 : decode cX10_quick 38 = .ok (.bipush 25, 2) := by decide +kernel
theorem dX10_quick_40 : decode cX10_quick 40 = .ok (.iload_n 2, 1) := by decide +kernel
theorem dX10_quick_41 : decode cX10_quick 41 = .ok (.iadd, 1) := by decide +kernel
theorem dX10_quick_42 : decode cX10_quick 42 = .ok (.iload 4, 2) := by decide +kernel
theorem dX10_quick_44 : decode cX10_quick 44 = .ok (.iastore, 1) := by decide +kernel
theorem dX10_quick_45 : decode cX10_quick 45 = .ok (.aload_n 0, 1) := by decide +kernel
theorem dX10_quick_46 : decode cX10_quick 46 = .ok (.aload_n 1, 1) := by decide +kernel
theorem dX10_quick_47 : decode cX10_quick 47 = .ok (.iload_n 3, 1) := by decide +kernel
theorem dX10_quick_48 : decode cX10_quick 48 = .ok (.iload 4, 2) := by decide +kernel
theorem dX10_quick_50 : decode cX10_quick 50 = .ok (.invokevirtual 139, 3) := by decide +kernel
theorem dX10_quick_53 : decode cX10_quick 53 = .ok (.istore 5, 2) := by decide +kernel
theorem dX10_quick_55 : decode cX10_quick 55 = .ok (.iinc 2 1, 3) := by decide +kernel
theorem dX10_quick_58 : decode cX10_quick 58 = .ok (.goto (-52), 3) := by decide +kernel
theorem dX10_quick_61 : decode cX10_quick 61 = .ok (.return_, 1) := by decide +kernel
theorem dX10_lateBy_0 : decode cX10_lateBy 0 = .ok (.aload_n 0, 1) := by decide +kernel
theorem dX10_lateBy_1 : decode cX10_lateBy 1 = .ok (.invokevirtual 130, 3) := by decide +kernel
theorem dX10_lateBy_4 : decode cX10_lateBy 4 = .ok (.iload_n 1, 1) := by decide +kernel
theorem dX10_lateBy_5 : decode cX10_lateBy 5 = .ok (.istore_n 2, 1) := by decide +kernel
theorem dX10_lateBy_6 : decode cX10_lateBy 6 = .ok (.iconst 0, 1) := by decide +kernel
theorem dX10_lateBy_7 : decode cX10_lateBy 7 = .ok (.istore_n 3, 1) := by decide +kernel
theorem dX10_lateBy_8 : decode cX10_lateBy 8 = .ok (.aload_n 0, 1) := by decide +kernel
theorem dX10_lateBy_9 : decode cX10_lateBy 9 = .ok (.getfield 44, 3) := by decide +kernel
theorem dX10_lateBy_12 : decode cX10_lateBy 12 = .ok (.iconst 0, 1) := by decide +kernel
theorem dX10_lateBy_13 : decode cX10_lateBy 13 = .ok (.iconst 0, 1) := by decide +kernel
theorem dX10_lateBy_14 : decode cX10_lateBy 14 = .ok (.iastore, 1) := by decide +kernel
theorem dX10_lateBy_15 : decode cX10_lateBy 15 = .ok (.iconst 0, 1) := by decide +kernel
theorem dX10_lateBy_16 : decode cX10_lateBy 16 = .ok (.istore 4, 2) := by decide +kernel
theorem dX10_lateBy_18 : decode cX10_lateBy 18 = .ok (.iload 4, 2) := by decide +kernel
theorem dX10_lateBy_20 : decode cX10_lateBy 20 = .ok (.aload_n 0, 1) := by decide +kernel
theorem dX10_lateBy_21 : decode cX10_lateBy 21 = .ok (.getfield 57, 3) := by decide +kernel
theorem dX10_lateBy_24 : decode cX10_lateBy 24 = .ok (.iconst 1, 1) := by decide +kernel
theorem dX10_lateBy_25 : decode cX10_lateBy 25 = .ok (.isub, 1) := by decide +kernel
theorem dX10_lateBy_26 : decode cX10_lateBy 26 = .ok (.if_icmp .ge 128, 3) := by decide +kernel
theorem dX10_lateBy_29 : decode cX10_lateBy 29 = .ok (.aload_n 0, 1) := by decide +kernel
theorem dX10_lateBy_30 : decode cX10_lateBy 30 = .ok (.getfield 57, 3) := by decide +kernel
theorem dX10_lateBy_33 : decode cX10_lateBy 33 = .ok (.iconst 1, 1) := by decide +kernel
theorem dX10_lateBy_34 : decode cX10_lateBy 34 = .ok (.isub, 1) := by decide +kernel
theorem dX10_lateBy_35 : decode cX10_lateBy 35 = .ok (.iload 4, 2) := by decide +kernel
theorem dX10_lateBy_37 : decode cX10_lateBy 37 = .ok (.isub, 1) := by decide +kernel
theorem dX10_lateBy_38 : decode cX10_lateBy 38 = .ok (.istore 5, 2) := by decide +kernel
theorem dX10_lateBy_40 : decode cX10_lateBy 40 = .ok (.iload_n 2, 1) := by decide +kernel
theorem dX10_lateBy_41 : decode cX10_lateBy 41 = .ok (.iload 5, 2) := by decide +kernel
theorem dX10_lateBy_43 : decode cX10_lateBy 43 = .ok (.irem, 1) := by decide +kernel
theorem dX10_lateBy_44 : decode cX10_lateBy 44 = .ok (.istore 6, 2) := by decide +kernel
theorem dX10_lateBy_46 : decode cX10_lateBy 46 = .ok (.iload_n 2, 1) := by decide +kernel
theorem dX10_lateBy_47 : decode cX10_lateBy 47 = .ok (.iload 5, 2) := by decide +kernel
theorem dX10_lateBy_49 : decode cX10_lateBy 49 = .ok (.idiv, 1) := by decide +kernel
theorem dX10_lateBy_50 : decode cX10_lateBy 50 = .ok (.istore_n 2, 1) := by decide +kernel
theorem dX10_lateBy_51 : decode cX10_lateBy 51 = .ok (.iload_n 2, 1) := by decide +kernel
theorem dX10_lateBy_52 : decode cX10_lateBy 52 = .ok (.iload 4, 2) := by decide +kernel
theorem dX10_lateBy_54 : decode cX10_lateBy 54 = .ok (.iconst 1, 1) := by decide +kernel
theorem dX10_lateBy_55 : decode cX10_lateBy 55 = .ok (.iadd, 1) := by decide +kernel
theorem dX10_lateBy_56 : decode cX10_lateBy 56 = .ok (.irem, 1) := by decide +kernel
theorem dX10_lateBy_57 : decode cX10_lateBy 57 = .ok (.istore 7, 2) := by decide +kernel
theorem dX10_lateBy_59 : decode cX10_lateBy 59 = .ok (.iload_n 2, 1) := by decide +kernel
theorem dX10_lateBy_60 : decode cX10_lateBy 60 = .ok (.iload 4, 2) := by decide +kernel
theorem dX10_lateBy_62 : decode cX10_lateBy 62 = .ok (.iconst 1, 1) := by decide +kernel
theorem dX10_lateBy_63 : decode cX10_lateBy 63 = .ok (.iadd, 1) := by decide +kernel
theorem dX10_lateBy_64 : decode cX10_lateBy 64 = .ok (.idiv, 1) := by decide +kernel
theorem dX10_lateBy_65 : decode cX10_lateBy 65 = .ok (.istore_n 2, 1) := by decide +kernel
theorem dX10_lateBy_66 : decode cX10_lateBy 66 = .ok (.iconst 0, 1) := by decide +kernel
theorem dX10_lateBy_67 : decode cX10_lateBy 67 = .ok (.istore 8, 2) := by decide +kernel
theorem dX10_lateBy_69 : decode cX10_lateBy 69 = .ok (.iload 6, 2) := by decide +kernel
theorem dX10_lateBy_71 : decode cX10_lateBy 71 = .ok (.istore 9, 2) := by decide +kernel
theorem dX10_lateBy_73 : decode cX10_lateBy 73 = .ok (.iload 9, 2) := by decide +kernel
theorem dX10_lateBy_75 : decode cX10_lateBy 75 = .ok (.ifCond .lt 30, 3) := by decide +kernel
theorem dX10_lateBy_78 : decode cX10_lateBy 78 = .ok (.iinc 8 1, 3) := by decide +kernel
theorem dX10_lateBy_81 : decode cX10_lateBy 81 = .ok (.aload_n 0, 1) := by decide +kernel
theorem dX10_lateBy_82 : decode cX10_lateBy 82 = .ok (.getfield 38, 3) := by decide +kernel
theorem dX10_lateBy_85 : decode cX10_lateBy 85 = .ok (.iload 8, 2) := by decide +kernel
theorem dX10_lateBy_87 : decode cX10_lateBy 87 = .ok (.iaload, 1) := by decide +kernel
theorem dX10_lateBy_88 : decode cX10_lateBy 88 = .ok (.bipush (-9), 2) := by decide +kernel
theorem dX10_lateBy_90 : decode cX10_lateBy 90 = .ok (.if_icmp .eq 9, 3) := by decide +kernel
theorem dX10_lateBy_93 : decode cX10_lateBy 93 = .ok (.iinc 8 1, 3) := by decide +kernel
theorem dX10_lateBy_96 : decode cX10_lateBy 96 = .ok (.goto (-15), 3) := by decide +kernel
theorem dX10_lateBy_99 : decode cX10_lateBy 99 = .ok (.iinc 9 (-1), 3) := by decide +kernel
theorem dX10_lateBy_102 : decode cX10_lateBy 102 = .ok (.goto (-29), 3) := by decide +kernel
theorem dX10_lateBy_105 : decode cX10_lateBy 105 = .ok (.aload_n 0, 1) := by decide +kernel
theorem dX10_lateBy_106 : decode cX10_lateBy 106 = .ok (.aload_n 0, 1) := by decide +kernel
theorem dX10_lateBy_107 : decode cX10_lateBy 107 = .ok (.getfield 13, 3) := by decide +kernel
theorem dX10_lateBy_110 : decode cX10_lateBy 110 = .ok (.aload_n 0, 1) := by decide +kernel
theorem dX10_lateBy_111 : decode cX10_lateBy 111 = .ok (.getfield 44, 3) := by decide +kernel
theorem dX10_lateBy_114 : decode cX10_lateBy 114 = .ok (.iload 7, 2) := by decide +kernel
theorem dX10_lateBy_116 : decode cX10_lateBy 116 = .ok (.iaload, 1) := by decide +kernel
theorem dX10_lateBy_117 : decode cX10_lateBy 117 = .ok (.iload 8, 2) := by decide +kernel
theorem dX10_lateBy_119 : decode cX10_lateBy 119 = .ok (.invokevirtual 139, 3) := by decide +kernel
theorem dX10_lateBy_122 : decode cX10_lateBy 122 = .ok (.istore 9, 2) := by decide +kernel
theorem dX10_lateBy_124 : decode cX10_lateBy 124 = .ok (.aload_n 0, 1) := by decide +kernel
theorem dX10_lateBy_125 : decode cX10_lateBy 125 = .ok (.getfield 44, 3) := by decide +kernel
theorem dX10_lateBy_128 : decode cX10_lateBy 128 = .ok (.iload 4, 2) := by decide +kernel
theorem dX10_lateBy_130 : decode cX10_lateBy 130 = .ok (.iconst 1, 1) := by decide +kernel
theorem dX10_lateBy_131 : decode cX10_lateBy 131 = .ok (.iadd, 1) := by decide +kernel
theorem dX10_lateBy_132 : decode cX10_lateBy 132 = .ok (.iload 8, 2) := by decide +kernel
theorem dX10_lateBy_134 : decode cX10_lateBy 134 = .ok (.iastore, 1) := by decide +kernel
theorem dX10_lateBy_135 : decode cX10_lateBy 135 = .ok (.iload 9, 2) := by decide +kernel
theorem dX10_lateBy_137 : decode cX10_lateBy 137 = .ok (.iload_n 3, 1) := by decide +kernel
theorem dX10_lateBy_138 : decode cX10_lateBy 138 = .ok (.if_icmp .le 8, 3) := by decide +kernel
theorem dX10_lateBy_141 : decode cX10_lateBy 141 = .ok (.iload 9, 2) := by decide +kernel
theorem dX10_lateBy_143 : decode cX10_lateBy 143 = .ok (.goto 4, 3) := by decide +kernel
theorem dX10_lateBy_146 : decode cX10_lateBy 146 = .ok (.iload_n 3, 1) := by decide +kernel
theorem dX10_lateBy_147 : decode cX10_lateBy 147 = .ok (.istore_n 3, 1) := by decide +kernel
theorem dX10_lateBy_148 : decode cX10_lateBy 148 = .ok (.iinc 4 1, 3) := by decide +kernel
theorem dX10_lateBy_151 : decode cX10_lateBy 151 = .ok (.goto (-133), 3) := by decide +kernel
theorem dX10_lateBy_154 : decode cX10_lateBy 154 = .ok (.iload_n 3, 1) := by decide +kernel
theorem dX10_lateBy_155 : decode cX10_lateBy 155 = .ok (.ireturn, 1) := by decide +kernel
theorem dX10_best_0 : decode cX10_best 0 = .ok (.iconst 1, 1) := by decide +kernel
theorem dX10_best_1 : decode cX10_best 1 = .ok (.istore_n 1, 1) := by decide +kernel
theorem dX10_best_2 : decode cX10_best 2 = .ok (.iconst 0, 1) := by decide +kernel
theorem dX10_best_3 : decode cX10_best 3 = .ok (.istore_n 2, 1) := by decide +kernel
theorem dX10_best_4 : decode cX10_best 4 = .ok (.iload_n 2, 1) := by decide +kernel
theorem dX10_best_5 : decode cX10_best 5 = .ok (.aload_n 0, 1) := by decide +kernel
theorem dX10_best_6 : decode cX10_best 6 = .ok (.getfield 57, 3) := by decide +kernel
theorem dX10_best_9 : decode cX10_best 9 = .ok (.iconst 1, 1) := by decide +kernel
theorem dX10_best_10 : decode cX10_best 10 = .ok (.isub, 1) := by decide +kernel
theorem dX10_best_11 : decode cX10_best 11 = .ok (.if_icmp .ge 24, 3) := by decide +kernel
theorem dX10_best_14 : decode cX10_best 14 = .ok (.iload_n 1, 1) := by decide +kernel
theorem dX10_best_15 : decode cX10_best 15 = .ok (.aload_n 0, 1) := by decide +kernel
theorem dX10_best_16 : decode cX10_best 16 = .ok (.getfield 57, 3) := by decide +kernel
theorem dX10_best_19 : decode cX10_best 19 = .ok (.iconst 1, 1) := by decide +kernel
theorem dX10_best_20 : decode cX10_best 20 = .ok (.isub, 1) := by decide +kernel
theorem dX10_best_21 : decode cX10_best 21 = .ok (.iload_n 2, 1) := by decide +kernel
theorem dX10_best_22 : decode cX10_best 22 = .ok (.isub, 1) := by decide +kernel
theorem dX10_best_23 : decode cX10_best 23 = .ok (.iload_n 2, 1) := by decide +kernel
theorem dX10_best_24 : decode cX10_best 24 = .ok (.iconst 1, 1) := by decide +kernel
theorem dX10_best_25 : decode cX10_best 25 = .ok (.iadd, 1) := by decide +kernel
theorem dX10_best_26 : decode cX10_best 26 = .ok (.imul, 1) := by decide +kernel
theorem dX10_best_27 : decode cX10_best 27 = .ok (.imul, 1) := by decide +kernel
theorem dX10_best_28 : decode cX10_best 28 = .ok (.istore_n 1, 1) := by decide +kernel
theorem dX10_best_29 : decode cX10_best 29 = .ok (.iinc 2 1, 3) := by decide +kernel
theorem dX10_best_32 : decode cX10_best 32 = .ok (.goto (-28), 3) := by decide +kernel
theorem dX10_best_35 : decode cX10_best 35 = .ok (.bipush (-9), 2) := by decide +kernel
theorem dX10_best_37 : decode cX10_best 37 = .ok (.istore_n 2, 1) := by decide +kernel
theorem dX10_best_38 : decode cX10_best 38 = .ok (.iconst 0, 1) := by decide +kernel
theorem dX10_best_39 : decode cX10_best 39 = .ok (.istore_n 3, 1) := by decide +kernel
theorem dX10_best_40 : decode cX10_best 40 = .ok (.iload_n 3, 1) := by decide +kernel
theorem dX10_best_41 : decode cX10_best 41 = .ok (.iload_n 1, 1) := by decide +kernel
theorem dX10_best_42 : decode cX10_best 42 = .ok (.if_icmp .ge 35, 3) := by decide +kernel
theorem dX10_best_45 : decode cX10_best 45 = .ok (.aload_n 0, 1) := by decide +kernel
theorem dX10_best_46 : decode cX10_best 46 = .ok (.iload_n 3, 1) := by decide +kernel
theorem dX10_best_47 : decode cX10_best 47 = .ok (.invokevirtual 143, 3) := by decide +kernel
theorem dX10_best_50 : decode cX10_best 50 = .ok (.istore 4, 2) := by decide +kernel
theorem dX10_best_52 : decode cX10_best 52 = .ok (.iload_n 2, 1) := by decide +kernel
theorem dX10_best_53 : decode cX10_best 53 = .ok (.bipush (-9), 2) := by decide +kernel
theorem dX10_best_55 : decode cX10_best 55 = .ok (.if_icmp .eq 9, 3) := by decide +kernel
theorem dX10_best_58 : decode cX10_best 58 = .ok (.iload 4, 2) := by decide +kernel
theorem dX10_best_60 : decode cX10_best 60 = .ok (.iload_n 2, 1) := by decide +kernel
theorem dX10_best_61 : decode cX10_best 61 = .ok (.if_icmp .ge 8, 3) := by decide +kernel
theorem dX10_best_64 : decode cX10_best 64 = .ok (.iload 4, 2) := by decide +kernel
theorem dX10_best_66 : decode cX10_best 66 = .ok (.goto 4, 3) := by decide +kernel
theorem dX10_best_69 : decode cX10_best 69 = .ok (.iload_n 2, 1) := by decide +kernel
theorem dX10_best_70 : decode cX10_best 70 = .ok (.istore_n 2, 1) := by decide +kernel
theorem dX10_best_71 : decode cX10_best 71 = .ok (.iinc 3 1, 3) := by decide +kernel
theorem dX10_best_74 : decode cX10_best 74 = .ok (.goto (-34), 3) := by decide +kernel
theorem dX10_best_77 : decode cX10_best 77 = .ok (.iload_n 2, 1) := by decide +kernel
theorem dX10_best_78 : decode cX10_best 78 = .ok (.ireturn, 1) := by decide +kernel
theorem dX10_about_0 : decode cX10_about 0 = .ok (.iload_n 1, 1) := by decide +kernel
theorem dX10_about_1 : decode cX10_about 1 = .ok (.tableswitch 148 0 8 #[51, 56, 63, 72, 100, 119, 133, 138, 143], 51) := by decide +kernel
theorem dX10_about_52 : decode cX10_about 52 = .ok (.aload_n 0, 1) := by decide +kernel
theorem dX10_about_53 : decode cX10_about 53 = .ok (.getfield 57, 3) := by decide +kernel
theorem dX10_about_56 : decode cX10_about 56 = .ok (.ireturn, 1) := by decide +kernel
theorem dX10_about_57 : decode cX10_about 57 = .ok (.aload_n 0, 1) := by decide +kernel
theorem dX10_about_58 : decode cX10_about 58 = .ok (.getfield 13, 3) := by decide +kernel
theorem dX10_about_61 : decode cX10_about 61 = .ok (.iconst 0, 1) := by decide +kernel
theorem dX10_about_62 : decode cX10_about 62 = .ok (.iaload, 1) := by decide +kernel
theorem dX10_about_63 : decode cX10_about 63 = .ok (.ireturn, 1) := by decide +kernel
theorem dX10_about_64 : decode cX10_about 64 = .ok (.aload_n 0, 1) := by decide +kernel
theorem dX10_about_65 : decode cX10_about 65 = .ok (.aload_n 0, 1) := by decide +kernel
theorem dX10_about_66 : decode cX10_about 66 = .ok (.getfield 13, 3) := by decide +kernel
theorem dX10_about_69 : decode cX10_about 69 = .ok (.invokevirtual 111, 3) := by decide +kernel
theorem dX10_about_72 : decode cX10_about 72 = .ok (.ireturn, 1) := by decide +kernel
theorem dX10_about_73 : decode cX10_about 73 = .ok (.aload_n 0, 1) := by decide +kernel
theorem dX10_about_74 : decode cX10_about 74 = .ok (.getfield 13, 3) := by decide +kernel
theorem dX10_about_77 : decode cX10_about 77 = .ok (.aload_n 0, 1) := by decide +kernel
theorem dX10_about_78 : decode cX10_about 78 = .ok (.getfield 16, 3) := by decide +kernel
theorem dX10_about_81 : decode cX10_about 81 = .ok (.invokestatic 104, 3) := by decide +kernel
theorem dX10_about_84 : decode cX10_about 84 = .ok (.aload_n 0, 1) := by decide +kernel
theorem dX10_about_85 : decode cX10_about 85 = .ok (.aload_n 0, 1) := by decide +kernel
theorem dX10_about_86 : decode cX10_about 86 = .ok (.getfield 16, 3) := by decide +kernel
theorem dX10_about_89 : decode cX10_about 89 = .ok (.invokevirtual 147, 3) := by decide +kernel
theorem dX10_about_92 : decode cX10_about 92 = .ok (.aload_n 0, 1) := by decide +kernel
theorem dX10_about_93 : decode cX10_about 93 = .ok (.aload_n 0, 1) := by decide +kernel
theorem dX10_about_94 : decode cX10_about 94 = .ok (.getfield 16, 3) := by decide +kernel
theorem dX10_about_97 : decode cX10_about 97 = .ok (.invokevirtual 111, 3) := by decide +kernel
theorem dX10_about_100 : decode cX10_about 100 = .ok (.ireturn, 1) := by decide +kernel
theorem dX10_about_101 : decode cX10_about 101 = .ok (.aload_n 0, 1) := by decide +kernel
theorem dX10_about_102 : decode cX10_about 102 = .ok (.getfield 57, 3) := by decide +kernel
theorem dX10_about_105 : decode cX10_about 105 = .ok (.bipush 6, 2) := by decide +kernel
theorem dX10_about_107 : decode cX10_about 107 = .ok (.if_icmp .le 8, 3) := by decide +kernel
theorem dX10_about_110 : decode cX10_about 110 = .ok (.bipush (-3), 2) := by decide +kernel
theorem dX10_about_112 : decode cX10_about 112 = .ok (.goto 7, 3) := by decide +kernel
theorem dX10_about_115 : decode cX10_about 115 = .ok (.aload_n 0, 1) := by decide +kernel
theorem dX10_about_116 : decode cX10_about 116 = .ok (.invokevirtual 150, 3) := by decide +kernel
theorem dX10_about_119 : decode cX10_about 119 = .ok (.ireturn, 1) := by decide +kernel
theorem dX10_about_120 : decode cX10_about 120 = .ok (.aload_n 0, 1) := by decide +kernel
theorem dX10_about_121 : decode cX10_about 121 = .ok (.getfield 13, 3) := by decide +kernel
theorem dX10_about_124 : decode cX10_about 124 = .ok (.iconst 0, 1) := by decide +kernel
theorem dX10_about_125 : decode cX10_about 125 = .ok (.iaload, 1) := by decide +kernel
theorem dX10_about_126 : decode cX10_about 126 = .ok (.aload_n 0, 1) := by decide +kernel
theorem dX10_about_127 : decode cX10_about 127 = .ok (.getfield 57, 3) := by decide +kernel
theorem dX10_about_130 : decode cX10_about 130 = .ok (.iconst 1, 1) := by decide +kernel
theorem dX10_about_131 : decode cX10_about 131 = .ok (.isub, 1) := by decide +kernel
theorem dX10_about_132 : decode cX10_about 132 = .ok (.imul, 1) := by decide +kernel
theorem dX10_about_133 : decode cX10_about 133 = .ok (.ireturn, 1) := by decide +kernel
theorem dX10_about_134 : decode cX10_about 134 = .ok (.aload_n 0, 1) := by decide +kernel
theorem dX10_about_135 : decode cX10_about 135 = .ok (.getfield 108, 3) := by decide +kernel
theorem dX10_about_138 : decode cX10_about 138 = .ok (.ireturn, 1) := by decide +kernel
theorem dX10_about_139 : decode cX10_about 139 = .ok (.aload_n 0, 1) := by decide +kernel
theorem dX10_about_140 : decode cX10_about 140 = .ok (.getfield 153, 3) := by decide +kernel
theorem dX10_about_143 : decode cX10_about 143 = .ok (.ireturn, 1) := by decide +kernel
theorem dX10_about_144 : decode cX10_about 144 = .ok (.aload_n 0, 1) := by decide +kernel
theorem dX10_about_145 : decode cX10_about 145 = .ok (.getfield 67, 3) := by decide +kernel
theorem dX10_about_148 : decode cX10_about 148 = .ok (.ireturn, 1) := by decide +kernel
theorem dX10_about_149 : decode cX10_about 149 = .ok (.bipush (-2), 2) := by decide +kernel
theorem dX10_about_151 : decode cX10_about 151 = .ok (.ireturn, 1) := by decide +kernel
theorem dX10_placeOf_0 : decode cX10_placeOf 0 = .ok (.bipush (-9), 2) := by decide +kernel
theorem dX10_placeOf_2 : decode cX10_placeOf 2 = .ok (.istore_n 2, 1) := by decide +kernel
theorem dX10_placeOf_3 : decode cX10_placeOf 3 = .ok (.iconst 0, 1) := by decide +kernel
theorem dX10_placeOf_4 : decode cX10_placeOf 4 = .ok (.istore_n 3, 1) := by decide +kernel
theorem dX10_placeOf_5 : decode cX10_placeOf 5 = .ok (.iload_n 3, 1) := by decide +kernel
theorem dX10_placeOf_6 : decode cX10_placeOf 6 = .ok (.aload_n 0, 1) := by decide +kernel
theorem dX10_placeOf_7 : decode cX10_placeOf 7 = .ok (.getfield 57, 3) := by decide +kernel
theorem dX10_placeOf_10 : decode cX10_placeOf 10 = .ok (.iconst 1, 1) := by decide +kernel
theorem dX10_placeOf_11 : decode cX10_placeOf 11 = .ok (.isub, 1) := by decide +kernel
theorem dX10_placeOf_12 : decode cX10_placeOf 12 = .ok (.if_icmp .ge 28, 3) := by decide +kernel
theorem dX10_placeOf_15 : decode cX10_placeOf 15 = .ok (.aload_n 0, 1) := by decide +kernel
theorem dX10_placeOf_16 : decode cX10_placeOf 16 = .ok (.getfield 13, 3) := by decide +kernel
theorem dX10_placeOf_19 : decode cX10_placeOf 19 = .ok (.bipush 25, 2) := by decide +kernel
theorem dX10_placeOf_21 : decode cX10_placeOf 21 = .ok (.iload_n 3, 1) := by decide +kernel
theorem dX10_placeOf_22 : decode cX10_placeOf 22 = .ok (.iadd, 1) := by decide +kernel
theorem dX10_placeOf_23 : decode cX10_placeOf 23 = .ok (.iaload, 1) := by decide +kernel
theorem dX10_placeOf_24 : decode cX10_placeOf 24 = .ok (.iload_n 1, 1) := by decide +kernel
theorem dX10_placeOf_25 : decode cX10_placeOf 25 = .ok (.if_icmp .ne 7, 3) := by decide +kernel
theorem dX10_placeOf_28 : decode cX10_placeOf 28 = .ok (.iload_n 3, 1) := by decide +kernel
theorem dX10_placeOf_29 : decode cX10_placeOf 29 = .ok (.goto 4, 3) := by decide +kernel
theorem dX10_placeOf_32 : decode cX10_placeOf 32 = .ok (.iload_n 2, 1) := by decide +kernel
theorem dX10_placeOf_33 : decode cX10_placeOf 33 = .ok (.istore_n 2, 1) := by decide +kernel
theorem dX10_placeOf_34 : decode cX10_placeOf 34 = .ok (.iinc 3 1, 3) := by decide +kernel
theorem dX10_placeOf_37 : decode cX10_placeOf 37 = .ok (.goto (-32), 3) := by decide +kernel
theorem dX10_placeOf_40 : decode cX10_placeOf 40 = .ok (.iload_n 2, 1) := by decide +kernel
theorem dX10_placeOf_41 : decode cX10_placeOf 41 = .ok (.ireturn, 1) := by decide +kernel
theorem dX10_toldBy_0 : decode cX10_toldBy 0 = .ok (.iconst 0, 1) := by decide +kernel
theorem dX10_toldBy_1 : decode cX10_toldBy 1 = .ok (.istore_n 3, 1) := by decide +kernel
theorem dX10_toldBy_2 : decode cX10_toldBy 2 = .ok (.iconst 1, 1) := by decide +kernel
theorem dX10_toldBy_3 : decode cX10_toldBy 3 = .ok (.istore 4, 2) := by decide +kernel
theorem dX10_toldBy_5 : decode cX10_toldBy 5 = .ok (.iload 4, 2) := by decide +kernel
theorem dX10_toldBy_7 : decode cX10_toldBy 7 = .ok (.aload_n 0, 1) := by decide +kernel
theorem dX10_toldBy_8 : decode cX10_toldBy 8 = .ok (.getfield 57, 3) := by decide +kernel
theorem dX10_toldBy_11 : decode cX10_toldBy 11 = .ok (.if_icmp .ge 28, 3) := by decide +kernel
theorem dX10_toldBy_14 : decode cX10_toldBy 14 = .ok (.iload_n 3, 1) := by decide +kernel
theorem dX10_toldBy_15 : decode cX10_toldBy 15 = .ok (.aload_n 1, 1) := by decide +kernel
theorem dX10_toldBy_16 : decode cX10_toldBy 16 = .ok (.bipush 17, 2) := by decide +kernel
theorem dX10_toldBy_18 : decode cX10_toldBy 18 = .ok (.iload 4, 2) := by decide +kernel
theorem dX10_toldBy_20 : decode cX10_toldBy 20 = .ok (.iadd, 1) := by decide +kernel
theorem dX10_toldBy_21 : decode cX10_toldBy 21 = .ok (.iaload, 1) := by decide +kernel
theorem dX10_toldBy_22 : decode cX10_toldBy 22 = .ok (.iload_n 2, 1) := by decide +kernel
theorem dX10_toldBy_23 : decode cX10_toldBy 23 = .ok (.if_icmp .ne 7, 3) := by decide +kernel
theorem dX10_toldBy_26 : decode cX10_toldBy 26 = .ok (.iconst 1, 1) := by decide +kernel
theorem dX10_toldBy_27 : decode cX10_toldBy 27 = .ok (.goto 4, 3) := by decide +kernel
theorem dX10_toldBy_30 : decode cX10_toldBy 30 = .ok (.iconst 0, 1) := by decide +kernel
theorem dX10_toldBy_31 : decode cX10_toldBy 31 = .ok (.iadd, 1) := by decide +kernel
theorem dX10_toldBy_32 : decode cX10_toldBy 32 = .ok (.istore_n 3, 1) := by decide +kernel
theorem dX10_toldBy_33 : decode cX10_toldBy 33 = .ok (.iinc 4 1, 3) := by decide +kernel
theorem dX10_toldBy_36 : decode cX10_toldBy 36 = .ok (.goto (-31), 3) := by decide +kernel
theorem dX10_toldBy_39 : decode cX10_toldBy 39 = .ok (.iload_n 3, 1) := by decide +kernel
theorem dX10_toldBy_40 : decode cX10_toldBy 40 = .ok (.ireturn, 1) := by decide +kernel
theorem dX10_slack_0 : decode cX10_slack 0 = .ok (.aload_n 0, 1) := by decide +kernel
theorem dX10_slack_1 : decode cX10_slack 1 = .ok (.aload_n 0, 1) := by decide +kernel
theorem dX10_slack_2 : decode cX10_slack 2 = .ok (.getfield 13, 3) := by decide +kernel
theorem dX10_slack_5 : decode cX10_slack 5 = .ok (.invokevirtual 111, 3) := by decide +kernel
theorem dX10_slack_8 : decode cX10_slack 8 = .ok (.istore_n 2, 1) := by decide +kernel
theorem dX10_slack_9 : decode cX10_slack 9 = .ok (.iconst 0, 1) := by decide +kernel
theorem dX10_slack_10 : decode cX10_slack 10 = .ok (.istore_n 3, 1) := by decide +kernel
theorem dX10_slack_11 : decode cX10_slack 11 = .ok (.iconst 1, 1) := by decide +kernel
theorem dX10_slack_12 : decode cX10_slack 12 = .ok (.istore 4, 2) := by decide +kernel
theorem dX10_slack_14 : decode cX10_slack 14 = .ok (.iload 4, 2) := by decide +kernel
theorem dX10_slack_16 : decode cX10_slack 16 = .ok (.bipush 30, 2) := by decide +kernel
theorem dX10_slack_18 : decode cX10_slack 18 = .ok (.if_icmp .gt 52, 3) := by decide +kernel
theorem dX10_slack_21 : decode cX10_slack 21 = .ok (.aload_n 0, 1) := by decide +kernel
theorem dX10_slack_22 : decode cX10_slack 22 = .ok (.getfield 13, 3) := by decide +kernel
theorem dX10_slack_25 : decode cX10_slack 25 = .ok (.aload_n 0, 1) := by decide +kernel
theorem dX10_slack_26 : decode cX10_slack 26 = .ok (.getfield 16, 3) := by decide +kernel
theorem dX10_slack_29 : decode cX10_slack 29 = .ok (.invokestatic 104, 3) := by decide +kernel
theorem dX10_slack_32 : decode cX10_slack 32 = .ok (.aload_n 0, 1) := by decide +kernel
theorem dX10_slack_33 : decode cX10_slack 33 = .ok (.getfield 16, 3) := by decide +kernel
theorem dX10_slack_36 : decode cX10_slack 36 = .ok (.iconst 1, 1) := by decide +kernel
theorem dX10_slack_37 : decode cX10_slack 37 = .ok (.iload_n 1, 1) := by decide +kernel
theorem dX10_slack_38 : decode cX10_slack 38 = .ok (.iadd, 1) := by decide +kernel
theorem dX10_slack_39 : decode cX10_slack 39 = .ok (.dup2, 1) := by decide +kernel
theorem dX10_slack_40 : decode cX10_slack 40 = .ok (.iaload, 1) := by decide +kernel
theorem dX10_slack_41 : decode cX10_slack 41 = .ok (.iload 4, 2) := by decide +kernel
theorem dX10_slack_43 : decode cX10_slack 43 = .ok (.iadd, 1) := by decide +kernel
theorem dX10_slack_44 : decode cX10_slack 44 = .ok (.iastore, 1) := by decide +kernel
theorem dX10_slack_45 : decode cX10_slack 45 = .ok (.aload_n 0, 1) := by decide +kernel
theorem dX10_slack_46 : decode cX10_slack 46 = .ok (.aload_n 0, 1) := by decide +kernel
theorem dX10_slack_47 : decode cX10_slack 47 = .ok (.getfield 16, 3) := by decide +kernel
theorem dX10_slack_50 : decode cX10_slack 50 = .ok (.invokevirtual 111, 3) := by decide +kernel
theorem dX10_slack_53 : decode cX10_slack 53 = .ok (.iload_n 2, 1) := by decide +kernel
theorem dX10_slack_54 : decode cX10_slack 54 = .ok (.if_icmp .gt 8, 3) := by decide +kernel
theorem dX10_slack_57 : decode cX10_slack 57 = .ok (.iload 4, 2) := by decide +kernel
theorem dX10_slack_59 : decode cX10_slack 59 = .ok (.goto 4, 3) := by decide +kernel
theorem dX10_slack_62 : decode cX10_slack 62 = .ok (.iload_n 3, 1) := by decide +kernel
theorem dX10_slack_63 : decode cX10_slack 63 = .ok (.istore_n 3, 1) := by decide +kernel
theorem dX10_slack_64 : decode cX10_slack 64 = .ok (.iinc 4 1, 3) := by decide +kernel
theorem dX10_slack_67 : decode cX10_slack 67 = .ok (.goto (-53), 3) := by decide +kernel
theorem dX10_slack_70 : decode cX10_slack 70 = .ok (.iload_n 3, 1) := by decide +kernel
theorem dX10_slack_71 : decode cX10_slack 71 = .ok (.ireturn, 1) := by decide +kernel
theorem dX10_gathered_0 : decode cX10_gathered 0 = .ok (.aload_n 0, 1) := by decide +kernel
theorem dX10_gathered_1 : decode cX10_gathered 1 = .ok (.aload_n 0, 1) := by decide +kernel
theorem dX10_gathered_2 : decode cX10_gathered 2 = .ok (.getfield 13, 3) := by decide +kernel
theorem dX10_gathered_5 : decode cX10_gathered 5 = .ok (.invokevirtual 111, 3) := by decide +kernel
theorem dX10_gathered_8 : decode cX10_gathered 8 = .ok (.istore_n 2, 1) := by decide +kernel
theorem dX10_gathered_9 : decode cX10_gathered 9 = .ok (.aload_n 0, 1) := by decide +kernel
theorem dX10_gathered_10 : decode cX10_gathered 10 = .ok (.aload_n 0, 1) := by decide +kernel
theorem dX10_gathered_11 : decode cX10_gathered 11 = .ok (.getfield 13, 3) := by decide +kernel
theorem dX10_gathered_14 : decode cX10_gathered 14 = .ok (.invokevirtual 119, 3) := by decide +kernel
theorem dX10_gathered_17 : decode cX10_gathered 17 = .ok (.iload_n 2, 1) := by decide +kernel
theorem dX10_gathered_18 : decode cX10_gathered 18 = .ok (.aload_n 0, 1) := by decide +kernel
theorem dX10_gathered_19 : decode cX10_gathered 19 = .ok (.getfield 35, 3) := by decide +kernel
theorem dX10_gathered_22 : decode cX10_gathered 22 = .ok (.iconst 3, 1) := by decide +kernel
theorem dX10_gathered_23 : decode cX10_gathered 23 = .ok (.iload_n 1, 1) := by decide +kernel
theorem dX10_gathered_24 : decode cX10_gathered 24 = .ok (.imul, 1) := by decide +kernel
theorem dX10_gathered_25 : decode cX10_gathered 25 = .ok (.aload_n 0, 1) := by decide +kernel
theorem dX10_gathered_26 : decode cX10_gathered 26 = .ok (.getfield 13, 3) := by decide +kernel
theorem dX10_gathered_29 : decode cX10_gathered 29 = .ok (.iconst 0, 1) := by decide +kernel
theorem dX10_gathered_30 : decode cX10_gathered 30 = .ok (.iaload, 1) := by decide +kernel
theorem dX10_gathered_31 : decode cX10_gathered 31 = .ok (.iadd, 1) := by decide +kernel
theorem dX10_gathered_32 : decode cX10_gathered 32 = .ok (.iconst 1, 1) := by decide +kernel
theorem dX10_gathered_33 : decode cX10_gathered 33 = .ok (.isub, 1) := by decide +kernel
theorem dX10_gathered_34 : decode cX10_gathered 34 = .ok (.iaload, 1) := by decide +kernel
theorem dX10_gathered_35 : decode cX10_gathered 35 = .ok (.isub, 1) := by decide +kernel
theorem dX10_gathered_36 : decode cX10_gathered 36 = .ok (.ireturn, 1) := by decide +kernel
theorem dX10_person_0 : decode cX10_person 0 = .ok (.aload_n 0, 1) := by decide +kernel
theorem dX10_person_1 : decode cX10_person 1 = .ok (.iload_n 1, 1) := by decide +kernel
theorem dX10_person_2 : decode cX10_person 2 = .ok (.invokevirtual 156, 3) := by decide +kernel
theorem dX10_person_5 : decode cX10_person 5 = .ok (.ifCond .ne 5, 3) := by decide +kernel
theorem dX10_person_8 : decode cX10_person 8 = .ok (.iconst (-1), 1) := by decide +kernel
theorem dX10_person_9 : decode cX10_person 9 = .ok (.ireturn, 1) := by decide +kernel
theorem dX10_person_10 : decode cX10_person 10 = .ok (.iload_n 2, 1) := by decide +kernel
theorem dX10_person_11 : decode cX10_person 11 = .ok (.tableswitch 125 0 6 #[41, 50, 60, 79, 94, 104, 110], 41) := by decide +kernel
theorem dX10_person_52 : decode cX10_person 52 = .ok (.aload_n 0, 1) := by decide +kernel
theorem dX10_person_53 : decode cX10_person 53 = .ok (.getfield 13, 3) := by decide +kernel
theorem dX10_person_56 : decode cX10_person 56 = .ok (.iconst 1, 1) := by decide +kernel
theorem dX10_person_57 : decode cX10_person 57 = .ok (.iload_n 1, 1) := by decide +kernel
theorem dX10_person_58 : decode cX10_person 58 = .ok (.iadd, 1) := by decide +kernel
theorem dX10_person_59 : decode cX10_person 59 = .ok (.iaload, 1) := by decide +kernel
theorem dX10_person_60 : decode cX10_person 60 = .ok (.ireturn, 1) := by decide +kernel
theorem dX10_person_61 : decode cX10_person 61 = .ok (.aload_n 0, 1) := by decide +kernel
theorem dX10_person_62 : decode cX10_person 62 = .ok (.getfield 13, 3) := by decide +kernel
theorem dX10_person_65 : decode cX10_person 65 = .ok (.bipush 9, 2) := by decide +kernel
theorem dX10_person_67 : decode cX10_person 67 = .ok (.iload_n 1, 1) := by decide +kernel
theorem dX10_person_68 : decode cX10_person 68 = .ok (.iadd, 1) := by decide +kernel
theorem dX10_person_69 : decode cX10_person 69 = .ok (.iaload, 1) := by decide +kernel
theorem dX10_person_70 : decode cX10_person 70 = .ok (.ireturn, 1) := by decide +kernel
theorem dX10_person_71 : decode cX10_person 71 = .ok (.iload_n 1, 1) := by decide +kernel
theorem dX10_person_72 : decode cX10_person 72 = .ok (.ifCond .ne 8, 3) := by decide +kernel
theorem dX10_person_75 : decode cX10_person 75 = .ok (.bipush (-9), 2) := by decide +kernel
theorem dX10_person_77 : decode cX10_person 77 = .ok (.goto 12, 3) := by decide +kernel
theorem dX10_person_80 : decode cX10_person 80 = .ok (.aload_n 0, 1) := by decide +kernel
theorem dX10_person_81 : decode cX10_person 81 = .ok (.getfield 13, 3) := by decide +kernel
theorem dX10_person_84 : decode cX10_person 84 = .ok (.bipush 17, 2) := by decide +kernel
theorem dX10_person_86 : decode cX10_person 86 = .ok (.iload_n 1, 1) := by decide +kernel
theorem dX10_person_87 : decode cX10_person 87 = .ok (.iadd, 1) := by decide +kernel
theorem dX10_person_88 : decode cX10_person 88 = .ok (.iaload, 1) := by decide +kernel
theorem dX10_person_89 : decode cX10_person 89 = .ok (.ireturn, 1) := by decide +kernel
theorem dX10_person_90 : decode cX10_person 90 = .ok (.iload_n 1, 1) := by decide +kernel
theorem dX10_person_91 : decode cX10_person 91 = .ok (.ifCond .ne 8, 3) := by decide +kernel
theorem dX10_person_94 : decode cX10_person 94 = .ok (.bipush (-9), 2) := by decide +kernel
theorem dX10_person_96 : decode cX10_person 96 = .ok (.goto 8, 3) := by decide +kernel
theorem dX10_person_99 : decode cX10_person 99 = .ok (.aload_n 0, 1) := by decide +kernel
theorem dX10_person_100 : decode cX10_person 100 = .ok (.iload_n 1, 1) := by decide +kernel
theorem dX10_person_101 : decode cX10_person 101 = .ok (.invokevirtual 160, 3) := by decide +kernel
theorem dX10_person_104 : decode cX10_person 104 = .ok (.ireturn, 1) := by decide +kernel
theorem dX10_person_105 : decode cX10_person 105 = .ok (.aload_n 0, 1) := by decide +kernel
theorem dX10_person_106 : decode cX10_person 106 = .ok (.aload_n 0, 1) := by decide +kernel
theorem dX10_person_107 : decode cX10_person 107 = .ok (.getfield 13, 3) := by decide +kernel
theorem dX10_person_110 : decode cX10_person 110 = .ok (.iload_n 1, 1) := by decide +kernel
theorem dX10_person_111 : decode cX10_person 111 = .ok (.invokevirtual 163, 3) := by decide +kernel
theorem dX10_person_114 : decode cX10_person 114 = .ok (.ireturn, 1) := by decide +kernel
theorem dX10_person_115 : decode cX10_person 115 = .ok (.aload_n 0, 1) := by decide +kernel
theorem dX10_person_116 : decode cX10_person 116 = .ok (.iload_n 1, 1) := by decide +kernel
theorem dX10_person_117 : decode cX10_person 117 = .ok (.invokevirtual 166, 3) := by decide +kernel
theorem dX10_person_120 : decode cX10_person 120 = .ok (.ireturn, 1) := by decide +kernel
theorem dX10_person_121 : decode cX10_person 121 = .ok (.iload_n 1, 1) := by decide +kernel
theorem dX10_person_122 : decode cX10_person 122 = .ok (.ifCond .ne 8, 3) := by decide +kernel
theorem dX10_person_125 : decode cX10_person 125 = .ok (.bipush (-9), 2) := by decide +kernel
theorem dX10_person_127 : decode cX10_person 127 = .ok (.goto 8, 3) := by decide +kernel
theorem dX10_person_130 : decode cX10_person 130 = .ok (.aload_n 0, 1) := by decide +kernel
theorem dX10_person_131 : decode cX10_person 131 = .ok (.iload_n 1, 1) := by decide +kernel
theorem dX10_person_132 : decode cX10_person 132 = .ok (.invokevirtual 169, 3) := by decide +kernel
theorem dX10_person_135 : decode cX10_person 135 = .ok (.ireturn, 1) := by decide +kernel
theorem dX10_person_136 : decode cX10_person 136 = .ok (.bipush (-2), 2) := by decide +kernel
theorem dX10_person_138 : decode cX10_person 138 = .ok (.ireturn, 1) := by decide +kernel
theorem dX10_plan_0 : decode cX10_plan 0 = .ok (.iload_n 1, 1) := by decide +kernel
theorem dX10_plan_1 : decode cX10_plan 1 = .ok (.i2l, 1) := by decide +kernel
theorem dX10_plan_2 : decode cX10_plan 2 = .ok (.lconst 0, 1) := by decide +kernel
theorem dX10_plan_3 : decode cX10_plan 3 = .ok (.aload_n 0, 1) := by decide +kernel
theorem dX10_plan_4 : decode cX10_plan 4 = .ok (.getfield 57, 3) := by decide +kernel
theorem dX10_plan_7 : decode cX10_plan 7 = .ok (.iconst 2, 1) := by decide +kernel
theorem dX10_plan_8 : decode cX10_plan 8 = .ok (.isub, 1) := by decide +kernel
theorem dX10_plan_9 : decode cX10_plan 9 = .ok (.i2l, 1) := by decide +kernel
theorem dX10_plan_10 : decode cX10_plan 10 = .ok (.invokestatic 61, 3) := by decide +kernel
theorem dX10_plan_13 : decode cX10_plan 13 = .ok (.ifCond .eq 15, 3) := by decide +kernel
theorem dX10_plan_16 : decode cX10_plan 16 = .ok (.aload_n 0, 1) := by decide +kernel
theorem dX10_plan_17 : decode cX10_plan 17 = .ok (.getfield 13, 3) := by decide +kernel
theorem dX10_plan_20 : decode cX10_plan 20 = .ok (.bipush 25, 2) := by decide +kernel
theorem dX10_plan_22 : decode cX10_plan 22 = .ok (.iload_n 1, 1) := by decide +kernel
theorem dX10_plan_23 : decode cX10_plan 23 = .ok (.iadd, 1) := by decide +kernel
theorem dX10_plan_24 : decode cX10_plan 24 = .ok (.iaload, 1) := by decide +kernel
theorem dX10_plan_25 : decode cX10_plan 25 = .ok (.goto 4, 3) := by decide +kernel
theorem dX10_plan_28 : decode cX10_plan 28 = .ok (.iconst (-1), 1) := by decide +kernel
theorem dX10_plan_29 : decode cX10_plan 29 = .ok (.ireturn, 1) := by decide +kernel
theorem dX10_knows_0 : decode cX10_knows 0 = .ok (.aload_n 0, 1) := by decide +kernel
theorem dX10_knows_1 : decode cX10_knows 1 = .ok (.iload_n 1, 1) := by decide +kernel
theorem dX10_knows_2 : decode cX10_knows 2 = .ok (.invokevirtual 156, 3) := by decide +kernel
theorem dX10_knows_5 : decode cX10_knows 5 = .ok (.ifCond .eq 21, 3) := by decide +kernel
theorem dX10_knows_8 : decode cX10_knows 8 = .ok (.iload_n 2, 1) := by decide +kernel
theorem dX10_knows_9 : decode cX10_knows 9 = .ok (.i2l, 1) := by decide +kernel
theorem dX10_knows_10 : decode cX10_knows 10 = .ok (.lconst 0, 1) := by decide +kernel
theorem dX10_knows_11 : decode cX10_knows 11 = .ok (.aload_n 0, 1) := by decide +kernel
theorem dX10_knows_12 : decode cX10_knows 12 = .ok (.getfield 13, 3) := by decide +kernel
theorem dX10_knows_15 : decode cX10_knows 15 = .ok (.iconst 0, 1) := by decide +kernel
theorem dX10_knows_16 : decode cX10_knows 16 = .ok (.iaload, 1) := by decide +kernel
theorem dX10_knows_17 : decode cX10_knows 17 = .ok (.iconst 1, 1) := by decide +kernel
theorem dX10_knows_18 : decode cX10_knows 18 = .ok (.isub, 1) := by decide +kernel
theorem dX10_knows_19 : decode cX10_knows 19 = .ok (.i2l, 1) := by decide +kernel
theorem dX10_knows_20 : decode cX10_knows 20 = .ok (.invokestatic 61, 3) := by decide +kernel
theorem dX10_knows_23 : decode cX10_knows 23 = .ok (.ifCond .ne 5, 3) := by decide +kernel
theorem dX10_knows_26 : decode cX10_knows 26 = .ok (.iconst (-1), 1) := by decide +kernel
theorem dX10_knows_27 : decode cX10_knows 27 = .ok (.ireturn, 1) := by decide +kernel
theorem dX10_knows_28 : decode cX10_knows 28 = .ok (.aload_n 0, 1) := by decide +kernel
theorem dX10_knows_29 : decode cX10_knows 29 = .ok (.aload_n 0, 1) := by decide +kernel
theorem dX10_knows_30 : decode cX10_knows 30 = .ok (.getfield 13, 3) := by decide +kernel
theorem dX10_knows_33 : decode cX10_knows 33 = .ok (.invokevirtual 119, 3) := by decide +kernel
theorem dX10_knows_36 : decode cX10_knows 36 = .ok (.aload_n 0, 1) := by decide +kernel
theorem dX10_knows_37 : decode cX10_knows 37 = .ok (.getfield 35, 3) := by decide +kernel
theorem dX10_knows_40 : decode cX10_knows 40 = .ok (.iconst 3, 1) := by decide +kernel
theorem dX10_knows_41 : decode cX10_knows 41 = .ok (.iload_n 1, 1) := by decide +kernel
theorem dX10_knows_42 : decode cX10_knows 42 = .ok (.imul, 1) := by decide +kernel
theorem dX10_knows_43 : decode cX10_knows 43 = .ok (.iload_n 2, 1) := by decide +kernel
theorem dX10_knows_44 : decode cX10_knows 44 = .ok (.iadd, 1) := by decide +kernel
theorem dX10_knows_45 : decode cX10_knows 45 = .ok (.iaload, 1) := by decide +kernel
theorem dX10_knows_46 : decode cX10_knows 46 = .ok (.ireturn, 1) := by decide +kernel
theorem dX10_last_0 : decode cX10_last 0 = .ok (.iload_n 1, 1) := by decide +kernel
theorem dX10_last_1 : decode cX10_last 1 = .ok (.i2l, 1) := by decide +kernel
theorem dX10_last_2 : decode cX10_last 2 = .ok (.lconst 0, 1) := by decide +kernel
theorem dX10_last_3 : decode cX10_last 3 = .ok (.aload_n 0, 1) := by decide +kernel
theorem dX10_last_4 : decode cX10_last 4 = .ok (.getfield 13, 3) := by decide +kernel
theorem dX10_last_7 : decode cX10_last 7 = .ok (.iconst 0, 1) := by decide +kernel
theorem dX10_last_8 : decode cX10_last 8 = .ok (.iaload, 1) := by decide +kernel
theorem dX10_last_9 : decode cX10_last 9 = .ok (.iconst 1, 1) := by decide +kernel
theorem dX10_last_10 : decode cX10_last 10 = .ok (.isub, 1) := by decide +kernel
theorem dX10_last_11 : decode cX10_last 11 = .ok (.i2l, 1) := by decide +kernel
theorem dX10_last_12 : decode cX10_last 12 = .ok (.invokestatic 61, 3) := by decide +kernel
theorem dX10_last_15 : decode cX10_last 15 = .ok (.ifCond .eq 15, 3) := by decide +kernel
theorem dX10_last_18 : decode cX10_last 18 = .ok (.aload_n 0, 1) := by decide +kernel
theorem dX10_last_19 : decode cX10_last 19 = .ok (.aload_n 0, 1) := by decide +kernel
theorem dX10_last_20 : decode cX10_last 20 = .ok (.getfield 13, 3) := by decide +kernel
theorem dX10_last_23 : decode cX10_last 23 = .ok (.iload_n 1, 1) := by decide +kernel
theorem dX10_last_24 : decode cX10_last 24 = .ok (.invokevirtual 123, 3) := by decide +kernel
theorem dX10_last_27 : decode cX10_last 27 = .ok (.goto 4, 3) := by decide +kernel
theorem dX10_last_30 : decode cX10_last 30 = .ok (.iconst (-1), 1) := by decide +kernel
theorem dX10_last_31 : decode cX10_last 31 = .ok (.ireturn, 1) := by decide +kernel
theorem dX10_note_0 : decode cX10_note 0 = .ok (.iconst 0, 1) := by decide +kernel
theorem dX10_note_1 : decode cX10_note 1 = .ok (.istore_n 1, 1) := by decide +kernel
theorem dX10_note_2 : decode cX10_note 2 = .ok (.iload_n 1, 1) := by decide +kernel
theorem dX10_note_3 : decode cX10_note 3 = .ok (.bipush 33, 2) := by decide +kernel
theorem dX10_note_5 : decode cX10_note 5 = .ok (.if_icmp .ge 29, 3) := by decide +kernel
theorem dX10_note_8 : decode cX10_note 8 = .ok (.aload_n 0, 1) := by decide +kernel
theorem dX10_note_9 : decode cX10_note 9 = .ok (.getfield 19, 3) := by decide +kernel
theorem dX10_note_12 : decode cX10_note 12 = .ok (.bipush 33, 2) := by decide +kernel
theorem dX10_note_14 : decode cX10_note 14 = .ok (.aload_n 0, 1) := by decide +kernel
theorem dX10_note_15 : decode cX10_note 15 = .ok (.getfield 172, 3) := by decide +kernel
theorem dX10_note_18 : decode cX10_note 18 = .ok (.imul, 1) := by decide +kernel
theorem dX10_note_19 : decode cX10_note 19 = .ok (.iload_n 1, 1) := by decide +kernel
theorem dX10_note_20 : decode cX10_note 20 = .ok (.iadd, 1) := by decide +kernel
theorem dX10_note_21 : decode cX10_note 21 = .ok (.aload_n 0, 1) := by decide +kernel
theorem dX10_note_22 : decode cX10_note 22 = .ok (.getfield 13, 3) := by decide +kernel
theorem dX10_note_25 : decode cX10_note 25 = .ok (.iload_n 1, 1) := by decide +kernel
theorem dX10_note_26 : decode cX10_note 26 = .ok (.iaload, 1) := by decide +kernel
theorem dX10_note_27 : decode cX10_note 27 = .ok (.iastore, 1) := by decide +kernel
theorem dX10_note_28 : decode cX10_note 28 = .ok (.iinc 1 1, 3) := by decide +kernel
theorem dX10_note_31 : decode cX10_note 31 = .ok (.goto (-29), 3) := by decide +kernel
theorem dX10_note_34 : decode cX10_note 34 = .ok (.aload_n 0, 1) := by decide +kernel
theorem dX10_note_35 : decode cX10_note 35 = .ok (.aload_n 0, 1) := by decide +kernel
theorem dX10_note_36 : decode cX10_note 36 = .ok (.getfield 172, 3) := by decide +kernel
theorem dX10_note_39 : decode cX10_note 39 = .ok (.iconst 1, 1) := by decide +kernel
theorem dX10_note_40 : decode cX10_note 40 = .ok (.iadd, 1) := by decide +kernel
theorem dX10_note_41 : decode cX10_note 41 = .ok (.bipush 14, 2) := by decide +kernel
theorem dX10_note_43 : decode cX10_note 43 = .ok (.irem, 1) := by decide +kernel
theorem dX10_note_44 : decode cX10_note 44 = .ok (.putfield 172, 3) := by decide +kernel
theorem dX10_note_47 : decode cX10_note 47 = .ok (.aload_n 0, 1) := by decide +kernel
theorem dX10_note_48 : decode cX10_note 48 = .ok (.aload_n 0, 1) := by decide +kernel
theorem dX10_note_49 : decode cX10_note 49 = .ok (.getfield 108, 3) := by decide +kernel
theorem dX10_note_52 : decode cX10_note 52 = .ok (.bipush 14, 2) := by decide +kernel
theorem dX10_note_54 : decode cX10_note 54 = .ok (.if_icmp .ge 12, 3) := by decide +kernel
theorem dX10_note_57 : decode cX10_note 57 = .ok (.aload_n 0, 1) := by decide +kernel
theorem dX10_note_58 : decode cX10_note 58 = .ok (.getfield 108, 3) := by decide +kernel
theorem dX10_note_61 : decode cX10_note 61 = .ok (.iconst 1, 1) := by decide +kernel
theorem dX10_note_62 : decode cX10_note 62 = .ok (.iadd, 1) := by decide +kernel
theorem dX10_note_63 : decode cX10_note 63 = .ok (.goto 5, 3) := by decide +kernel
theorem dX10_note_66 : decode cX10_note 66 = .ok (.bipush 14, 2) := by decide +kernel
theorem dX10_note_68 : decode cX10_note 68 = .ok (.putfield 108, 3) := by decide +kernel
theorem dX10_note_71 : decode cX10_note 71 = .ok (.return_, 1) := by decide +kernel
theorem dX10_below_0 : decode cX10_below 0 = .ok (.iconst 1, 1) := by decide +kernel
theorem dX10_below_1 : decode cX10_below 1 = .ok (.iload_n 2, 1) := by decide +kernel
theorem dX10_below_2 : decode cX10_below 2 = .ok (.ishl, 1) := by decide +kernel
theorem dX10_below_3 : decode cX10_below 3 = .ok (.istore_n 3, 1) := by decide +kernel
theorem dX10_below_4 : decode cX10_below 4 = .ok (.iconst 0, 1) := by decide +kernel
theorem dX10_below_5 : decode cX10_below 5 = .ok (.istore 4, 2) := by decide +kernel
theorem dX10_below_7 : decode cX10_below 7 = .ok (.iload 4, 2) := by decide +kernel
theorem dX10_below_9 : decode cX10_below 9 = .ok (.aload_n 0, 1) := by decide +kernel
theorem dX10_below_10 : decode cX10_below 10 = .ok (.getfield 57, 3) := by decide +kernel
theorem dX10_below_13 : decode cX10_below 13 = .ok (.iconst 1, 1) := by decide +kernel
theorem dX10_below_14 : decode cX10_below 14 = .ok (.isub, 1) := by decide +kernel
theorem dX10_below_15 : decode cX10_below 15 = .ok (.if_icmp .ge 43, 3) := by decide +kernel
theorem dX10_below_18 : decode cX10_below 18 = .ok (.aload_n 1, 1) := by decide +kernel
theorem dX10_below_19 : decode cX10_below 19 = .ok (.bipush 25, 2) := by decide +kernel
theorem dX10_below_21 : decode cX10_below 21 = .ok (.iload 4, 2) := by decide +kernel
theorem dX10_below_23 : decode cX10_below 23 = .ok (.iadd, 1) := by decide +kernel
theorem dX10_below_24 : decode cX10_below 24 = .ok (.iaload, 1) := by decide +kernel
theorem dX10_below_25 : decode cX10_below 25 = .ok (.istore 5, 2) := by decide +kernel
theorem dX10_below_27 : decode cX10_below 27 = .ok (.iload_n 3, 1) := by decide +kernel
theorem dX10_below_28 : decode cX10_below 28 = .ok (.iload_n 3, 1) := by decide +kernel
theorem dX10_below_29 : decode cX10_below 29 = .ok (.aload_n 1, 1) := by decide +kernel
theorem dX10_below_30 : decode cX10_below 30 = .ok (.bipush 17, 2) := by decide +kernel
theorem dX10_below_32 : decode cX10_below 32 = .ok (.iload 5, 2) := by decide +kernel
theorem dX10_below_34 : decode cX10_below 34 = .ok (.iadd, 1) := by decide +kernel
theorem dX10_below_35 : decode cX10_below 35 = .ok (.iaload, 1) := by decide +kernel
theorem dX10_below_36 : decode cX10_below 36 = .ok (.invokestatic 90, 3) := by decide +kernel
theorem dX10_below_39 : decode cX10_below 39 = .ok (.ifCond .eq 10, 3) := by decide +kernel
theorem dX10_below_42 : decode cX10_below 42 = .ok (.iconst 1, 1) := by decide +kernel
theorem dX10_below_43 : decode cX10_below 43 = .ok (.iload 5, 2) := by decide +kernel
theorem dX10_below_45 : decode cX10_below 45 = .ok (.ishl, 1) := by decide +kernel
theorem dX10_below_46 : decode cX10_below 46 = .ok (.goto 4, 3) := by decide +kernel
theorem dX10_below_49 : decode cX10_below 49 = .ok (.iconst 0, 1) := by decide +kernel
theorem dX10_below_50 : decode cX10_below 50 = .ok (.ior, 1) := by decide +kernel
theorem dX10_below_51 : decode cX10_below 51 = .ok (.istore_n 3, 1) := by decide +kernel
theorem dX10_below_52 : decode cX10_below 52 = .ok (.iinc 4 1, 3) := by decide +kernel
theorem dX10_below_55 : decode cX10_below 55 = .ok (.goto (-48), 3) := by decide +kernel
theorem dX10_below_58 : decode cX10_below 58 = .ok (.iload_n 3, 1) := by decide +kernel
theorem dX10_below_59 : decode cX10_below 59 = .ok (.ireturn, 1) := by decide +kernel
theorem dX10_mayMove_0 : decode cX10_mayMove 0 = .ok (.aload_n 1, 1) := by decide +kernel
theorem dX10_mayMove_1 : decode cX10_mayMove 1 = .ok (.bipush 17, 2) := by decide +kernel
theorem dX10_mayMove_3 : decode cX10_mayMove 3 = .ok (.iload_n 2, 1) := by decide +kernel
theorem dX10_mayMove_4 : decode cX10_mayMove 4 = .ok (.iadd, 1) := by decide +kernel
theorem dX10_mayMove_5 : decode cX10_mayMove 5 = .ok (.iaload, 1) := by decide +kernel
theorem dX10_mayMove_6 : decode cX10_mayMove 6 = .ok (.iload_n 3, 1) := by decide +kernel
theorem dX10_mayMove_7 : decode cX10_mayMove 7 = .ok (.if_icmp .eq 20, 3) := by decide +kernel
theorem dX10_mayMove_10 : decode cX10_mayMove 10 = .ok (.aload_n 0, 1) := by decide +kernel
theorem dX10_mayMove_11 : decode cX10_mayMove 11 = .ok (.aload_n 1, 1) := by decide +kernel
theorem dX10_mayMove_12 : decode cX10_mayMove 12 = .ok (.iload_n 2, 1) := by decide +kernel
theorem dX10_mayMove_13 : decode cX10_mayMove 13 = .ok (.invokevirtual 175, 3) := by decide +kernel
theorem dX10_mayMove_16 : decode cX10_mayMove 16 = .ok (.iload_n 3, 1) := by decide +kernel
theorem dX10_mayMove_17 : decode cX10_mayMove 17 = .ok (.invokestatic 90, 3) := by decide +kernel
theorem dX10_mayMove_20 : decode cX10_mayMove 20 = .ok (.ifCond .ne 7, 3) := by decide +kernel
theorem dX10_mayMove_23 : decode cX10_mayMove 23 = .ok (.iconst 1, 1) := by decide +kernel
theorem dX10_mayMove_24 : decode cX10_mayMove 24 = .ok (.goto 4, 3) := by decide +kernel
theorem dX10_mayMove_27 : decode cX10_mayMove 27 = .ok (.iconst 0, 1) := by decide +kernel
theorem dX10_mayMove_28 : decode cX10_mayMove 28 = .ok (.ireturn, 1) := by decide +kernel
theorem dX10_moveOn_0 : decode cX10_moveOn 0 = .ok (.aload_n 0, 1) := by decide +kernel
theorem dX10_moveOn_1 : decode cX10_moveOn 1 = .ok (.aload_n 1, 1) := by decide +kernel
theorem dX10_moveOn_2 : decode cX10_moveOn 2 = .ok (.iload_n 2, 1) := by decide +kernel
theorem dX10_moveOn_3 : decode cX10_moveOn 3 = .ok (.invokevirtual 175, 3) := by decide +kernel
theorem dX10_moveOn_6 : decode cX10_moveOn 6 = .ok (.istore 4, 2) := by decide +kernel
theorem dX10_moveOn_8 : decode cX10_moveOn 8 = .ok (.iconst 0, 1) := by decide +kernel
theorem dX10_moveOn_9 : decode cX10_moveOn 9 = .ok (.istore 5, 2) := by decide +kernel
theorem dX10_moveOn_11 : decode cX10_moveOn 11 = .ok (.iconst 0, 1) := by decide +kernel
theorem dX10_moveOn_12 : decode cX10_moveOn 12 = .ok (.istore 6, 2) := by decide +kernel
theorem dX10_moveOn_14 : decode cX10_moveOn 14 = .ok (.iload 6, 2) := by decide +kernel
theorem dX10_moveOn_16 : decode cX10_moveOn 16 = .ok (.iconst 2, 1) := by decide +kernel
theorem dX10_moveOn_17 : decode cX10_moveOn 17 = .ok (.if_icmp .ge 71, 3) := by decide +kernel
theorem dX10_moveOn_20 : decode cX10_moveOn 20 = .ok (.iconst 0, 1) := by decide +kernel
theorem dX10_moveOn_21 : decode cX10_moveOn 21 = .ok (.istore 7, 2) := by decide +kernel
theorem dX10_moveOn_23 : decode cX10_moveOn 23 = .ok (.iload 7, 2) := by decide +kernel
theorem dX10_moveOn_25 : decode cX10_moveOn 25 = .ok (.aload_n 0, 1) := by decide +kernel
theorem dX10_moveOn_26 : decode cX10_moveOn 26 = .ok (.getfield 57, 3) := by decide +kernel
theorem dX10_moveOn_29 : decode cX10_moveOn 29 = .ok (.iconst 1, 1) := by decide +kernel
theorem dX10_moveOn_30 : decode cX10_moveOn 30 = .ok (.isub, 1) := by decide +kernel
theorem dX10_moveOn_31 : decode cX10_moveOn 31 = .ok (.if_icmp .ge 51, 3) := by decide +kernel
theorem dX10_moveOn_34 : decode cX10_moveOn 34 = .ok (.aload_n 1, 1) := by decide +kernel
theorem dX10_moveOn_35 : decode cX10_moveOn 35 = .ok (.bipush 25, 2) := by decide +kernel
theorem dX10_moveOn_37 : decode cX10_moveOn 37 = .ok (.iload 7, 2) := by decide +kernel
theorem dX10_moveOn_39 : decode cX10_moveOn 39 = .ok (.iadd, 1) := by decide +kernel
theorem dX10_moveOn_40 : decode cX10_moveOn 40 = .ok (.iaload, 1) := by decide +kernel
theorem dX10_moveOn_41 : decode cX10_moveOn 41 = .ok (.istore 8, 2) := by decide +kernel
theorem dX10_moveOn_43 : decode cX10_moveOn 43 = .ok (.iload 4, 2) := by decide +kernel
theorem dX10_moveOn_45 : decode cX10_moveOn 45 = .ok (.iload 8, 2) := by decide +kernel
theorem dX10_moveOn_47 : decode cX10_moveOn 47 = .ok (.invokestatic 90, 3) := by decide +kernel
theorem dX10_moveOn_50 : decode cX10_moveOn 50 = .ok (.iload 6, 2) := by decide +kernel
theorem dX10_moveOn_52 : decode cX10_moveOn 52 = .ok (.iconst 1, 1) := by decide +kernel
theorem dX10_moveOn_53 : decode cX10_moveOn 53 = .ok (.if_icmp .ne 7, 3) := by decide +kernel
theorem dX10_moveOn_56 : decode cX10_moveOn 56 = .ok (.iconst 1, 1) := by decide +kernel
theorem dX10_moveOn_57 : decode cX10_moveOn 57 = .ok (.goto 4, 3) := by decide +kernel
theorem dX10_moveOn_60 : decode cX10_moveOn 60 = .ok (.iconst 0, 1) := by decide +kernel
theorem dX10_moveOn_61 : decode cX10_moveOn 61 = .ok (.if_icmp .ne 15, 3) := by decide +kernel
theorem dX10_moveOn_64 : decode cX10_moveOn 64 = .ok (.aload_n 0, 1) := by decide +kernel
theorem dX10_moveOn_65 : decode cX10_moveOn 65 = .ok (.getfield 44, 3) := by decide +kernel
theorem dX10_moveOn_68 : decode cX10_moveOn 68 = .ok (.iload 5, 2) := by decide +kernel
theorem dX10_moveOn_70 : decode cX10_moveOn 70 = .ok (.iload 8, 2) := by decide +kernel
theorem dX10_moveOn_72 : decode cX10_moveOn 72 = .ok (.iastore, 1) := by decide +kernel
theorem dX10_moveOn_73 : decode cX10_moveOn 73 = .ok (.iinc 5 1, 3) := by decide +kernel
theorem dX10_moveOn_76 : decode cX10_moveOn 76 = .ok (.iinc 7 1, 3) := by decide +kernel
theorem dX10_moveOn_79 : decode cX10_moveOn 79 = .ok (.goto (-56), 3) := by decide +kernel
theorem dX10_moveOn_82 : decode cX10_moveOn 82 = .ok (.iinc 6 1, 3) := by decide +kernel
theorem dX10_moveOn_85 : decode cX10_moveOn 85 = .ok (.goto (-71), 3) := by decide +kernel
theorem dX10_moveOn_88 : decode cX10_moveOn 88 = .ok (.iconst 0, 1) := by decide +kernel
theorem dX10_moveOn_89 : decode cX10_moveOn 89 = .ok (.istore 6, 2) := by decide +kernel
theorem dX10_moveOn_91 : decode cX10_moveOn 91 = .ok (.iload 6, 2) := by decide +kernel
theorem dX10_moveOn_93 : decode cX10_moveOn 93 = .ok (.iload 5, 2) := by decide +kernel
theorem dX10_moveOn_95 : decode cX10_moveOn 95 = .ok (.if_icmp .ge 23, 3) := by decide +kernel
theorem dX10_moveOn_98 : decode cX10_moveOn 98 = .ok (.aload_n 1, 1) := by decide +kernel
theorem dX10_moveOn_99 : decode cX10_moveOn 99 = .ok (.bipush 25, 2) := by decide +kernel
theorem dX10_moveOn_101 : decode cX10_moveOn 101 = .ok (.iload 6, 2) := by decide +kernel
theorem dX10_moveOn_103 : decode cX10_moveOn 103 = .ok (.iadd, 1) := by decide +kernel
theorem dX10_moveOn_104 : decode cX10_moveOn 104 = .ok (.aload_n 0, 1) := by decide +kernel
theorem dX10_moveOn_105 : decode cX10_moveOn 105 = .ok (.getfield 44, 3) := by decide +kernel
theorem dX10_moveOn_108 : decode cX10_moveOn 108 = .ok (.iload 6, 2) := by decide +kernel
theorem dX10_moveOn_110 : decode cX10_moveOn 110 = .ok (.iaload, 1) := by decide +kernel
theorem dX10_moveOn_111 : decode cX10_moveOn 111 = .ok (.iastore, 1) := by decide +kernel
theorem dX10_moveOn_112 : decode cX10_moveOn 112 = .ok (.iinc 6 1, 3) := by decide +kernel
theorem dX10_moveOn_115 : decode cX10_moveOn 115 = .ok (.goto (-24), 3) := by decide +kernel
theorem dX10_moveOn_118 : decode cX10_moveOn 118 = .ok (.aload_n 1, 1) := by decide +kernel
theorem dX10_moveOn_119 : decode cX10_moveOn 119 = .ok (.bipush 17, 2) := by decide +kernel
theorem dX10_moveOn_121 : decode cX10_moveOn 121 = .ok (.iload_n 2, 1) := by decide +kernel
theorem dX10_moveOn_122 : decode cX10_moveOn 122 = .ok (.iadd, 1) := by decide +kernel
theorem dX10_moveOn_123 : decode cX10_moveOn 123 = .ok (.iload_n 3, 1) := by decide +kernel
theorem dX10_moveOn_124 : decode cX10_moveOn 124 = .ok (.iastore, 1) := by decide +kernel
theorem dX10_moveOn_125 : decode cX10_moveOn 125 = .ok (.return_, 1) := by decide +kernel
theorem dX10_move_0 : decode cX10_move 0 = .ok (.aload_n 0, 1) := by decide +kernel
theorem dX10_move_1 : decode cX10_move 1 = .ok (.iload_n 1, 1) := by decide +kernel
theorem dX10_move_2 : decode cX10_move 2 = .ok (.invokevirtual 156, 3) := by decide +kernel
theorem dX10_move_5 : decode cX10_move 5 = .ok (.ifCond .eq 15, 3) := by decide +kernel
theorem dX10_move_8 : decode cX10_move 8 = .ok (.iload_n 1, 1) := by decide +kernel
theorem dX10_move_9 : decode cX10_move 9 = .ok (.ifCond .eq 11, 3) := by decide +kernel
theorem dX10_move_12 : decode cX10_move 12 = .ok (.aload_n 0, 1) := by decide +kernel
theorem dX10_move_13 : decode cX10_move 13 = .ok (.iload_n 2, 1) := by decide +kernel
theorem dX10_move_14 : decode cX10_move 14 = .ok (.invokevirtual 156, 3) := by decide +kernel
theorem dX10_move_17 : decode cX10_move 17 = .ok (.ifCond .ne 5, 3) := by decide +kernel
theorem dX10_move_20 : decode cX10_move 20 = .ok (.iconst (-1), 1) := by decide +kernel
theorem dX10_move_21 : decode cX10_move 21 = .ok (.ireturn, 1) := by decide +kernel
theorem dX10_move_22 : decode cX10_move 22 = .ok (.aload_n 0, 1) := by decide +kernel
theorem dX10_move_23 : decode cX10_move 23 = .ok (.aload_n 0, 1) := by decide +kernel
theorem dX10_move_24 : decode cX10_move 24 = .ok (.getfield 13, 3) := by decide +kernel
theorem dX10_move_27 : decode cX10_move 27 = .ok (.iload_n 1, 1) := by decide +kernel
theorem dX10_move_28 : decode cX10_move 28 = .ok (.iload_n 2, 1) := by decide +kernel
theorem dX10_move_29 : decode cX10_move 29 = .ok (.invokevirtual 178, 3) := by decide +kernel
theorem dX10_move_32 : decode cX10_move 32 = .ok (.ifCond .ne 6, 3) := by decide +kernel
theorem dX10_move_35 : decode cX10_move 35 = .ok (.bipush (-3), 2) := by decide +kernel
theorem dX10_move_37 : decode cX10_move 37 = .ok (.ireturn, 1) := by decide +kernel
theorem dX10_move_38 : decode cX10_move 38 = .ok (.aload_n 0, 1) := by decide +kernel
theorem dX10_move_39 : decode cX10_move 39 = .ok (.invokevirtual 182, 3) := by decide +kernel
theorem dX10_move_42 : decode cX10_move 42 = .ok (.aload_n 0, 1) := by decide +kernel
theorem dX10_move_43 : decode cX10_move 43 = .ok (.aload_n 0, 1) := by decide +kernel
theorem dX10_move_44 : decode cX10_move 44 = .ok (.getfield 13, 3) := by decide +kernel
theorem dX10_move_47 : decode cX10_move 47 = .ok (.iload_n 1, 1) := by decide +kernel
theorem dX10_move_48 : decode cX10_move 48 = .ok (.iload_n 2, 1) := by decide +kernel
theorem dX10_move_49 : decode cX10_move 49 = .ok (.invokevirtual 185, 3) := by decide +kernel
theorem dX10_move_52 : decode cX10_move 52 = .ok (.aload_n 0, 1) := by decide +kernel
theorem dX10_move_53 : decode cX10_move 53 = .ok (.aload_n 0, 1) := by decide +kernel
theorem dX10_move_54 : decode cX10_move 54 = .ok (.getfield 13, 3) := by decide +kernel
theorem dX10_move_57 : decode cX10_move 57 = .ok (.invokevirtual 111, 3) := by decide +kernel
theorem dX10_move_60 : decode cX10_move 60 = .ok (.ireturn, 1) := by decide +kernel
theorem dX10_isPair_0 : decode cX10_isPair 0 = .ok (.iload_n 1, 1) := by decide +kernel
theorem dX10_isPair_1 : decode cX10_isPair 1 = .ok (.i2l, 1) := by decide +kernel
theorem dX10_isPair_2 : decode cX10_isPair 2 = .ok (.lconst 0, 1) := by decide +kernel
theorem dX10_isPair_3 : decode cX10_isPair 3 = .ok (.aload_n 0, 1) := by decide +kernel
theorem dX10_isPair_4 : decode cX10_isPair 4 = .ok (.getfield 57, 3) := by decide +kernel
theorem dX10_isPair_7 : decode cX10_isPair 7 = .ok (.iconst 3, 1) := by decide +kernel
theorem dX10_isPair_8 : decode cX10_isPair 8 = .ok (.isub, 1) := by decide +kernel
theorem dX10_isPair_9 : decode cX10_isPair 9 = .ok (.i2l, 1) := by decide +kernel
theorem dX10_isPair_10 : decode cX10_isPair 10 = .ok (.invokestatic 61, 3) := by decide +kernel
theorem dX10_isPair_13 : decode cX10_isPair 13 = .ok (.ireturn, 1) := by decide +kernel
theorem dX10_mayChange_0 : decode cX10_mayChange 0 = .ok (.aload_n 0, 1) := by decide +kernel
theorem dX10_mayChange_1 : decode cX10_mayChange 1 = .ok (.bipush 17, 2) := by decide +kernel
theorem dX10_mayChange_3 : decode cX10_mayChange 3 = .ok (.aload_n 0, 1) := by decide +kernel
theorem dX10_mayChange_4 : decode cX10_mayChange 4 = .ok (.bipush 25, 2) := by decide +kernel
theorem dX10_mayChange_6 : decode cX10_mayChange 6 = .ok (.iload_n 1, 1) := by decide +kernel
theorem dX10_mayChange_7 : decode cX10_mayChange 7 = .ok (.iadd, 1) := by decide +kernel
theorem dX10_mayChange_8 : decode cX10_mayChange 8 = .ok (.iconst 1, 1) := by decide +kernel
theorem dX10_mayChange_9 : decode cX10_mayChange 9 = .ok (.iadd, 1) := by decide +kernel
theorem dX10_mayChange_10 : decode cX10_mayChange 10 = .ok (.iaload, 1) := by decide +kernel
theorem dX10_mayChange_11 : decode cX10_mayChange 11 = .ok (.iadd, 1) := by decide +kernel
theorem dX10_mayChange_12 : decode cX10_mayChange 12 = .ok (.iaload, 1) := by decide +kernel
theorem dX10_mayChange_13 : decode cX10_mayChange 13 = .ok (.aload_n 0, 1) := by decide +kernel
theorem dX10_mayChange_14 : decode cX10_mayChange 14 = .ok (.bipush 25, 2) := by decide +kernel
theorem dX10_mayChange_16 : decode cX10_mayChange 16 = .ok (.iload_n 1, 1) := by decide +kernel
theorem dX10_mayChange_17 : decode cX10_mayChange 17 = .ok (.iadd, 1) := by decide +kernel
theorem dX10_mayChange_18 : decode cX10_mayChange 18 = .ok (.iaload, 1) := by decide +kernel
theorem dX10_mayChange_19 : decode cX10_mayChange 19 = .ok (.if_icmp .eq 7, 3) := by decide +kernel
theorem dX10_mayChange_22 : decode cX10_mayChange 22 = .ok (.iconst 1, 1) := by decide +kernel
theorem dX10_mayChange_23 : decode cX10_mayChange 23 = .ok (.goto 4, 3) := by decide +kernel
theorem dX10_mayChange_26 : decode cX10_mayChange 26 = .ok (.iconst 0, 1) := by decide +kernel
theorem dX10_mayChange_27 : decode cX10_mayChange 27 = .ok (.ireturn, 1) := by decide +kernel
theorem dX10_changeOn_0 : decode cX10_changeOn 0 = .ok (.aload_n 0, 1) := by decide +kernel
theorem dX10_changeOn_1 : decode cX10_changeOn 1 = .ok (.bipush 25, 2) := by decide +kernel
theorem dX10_changeOn_3 : decode cX10_changeOn 3 = .ok (.iload_n 1, 1) := by decide +kernel
theorem dX10_changeOn_4 : decode cX10_changeOn 4 = .ok (.iadd, 1) := by decide +kernel
theorem dX10_changeOn_5 : decode cX10_changeOn 5 = .ok (.iaload, 1) := by decide +kernel
theorem dX10_changeOn_6 : decode cX10_changeOn 6 = .ok (.istore_n 2, 1) := by decide +kernel
theorem dX10_changeOn_7 : decode cX10_changeOn 7 = .ok (.aload_n 0, 1) := by decide +kernel
theorem dX10_changeOn_8 : decode cX10_changeOn 8 = .ok (.bipush 25, 2) := by decide +kernel
theorem dX10_changeOn_10 : decode cX10_changeOn 10 = .ok (.iload_n 1, 1) := by decide +kernel
theorem dX10_changeOn_11 : decode cX10_changeOn 11 = .ok (.iadd, 1) := by decide +kernel
theorem dX10_changeOn_12 : decode cX10_changeOn 12 = .ok (.aload_n 0, 1) := by decide +kernel
theorem dX10_changeOn_13 : decode cX10_changeOn 13 = .ok (.bipush 25, 2) := by decide +kernel
theorem dX10_changeOn_15 : decode cX10_changeOn 15 = .ok (.iload_n 1, 1) := by decide +kernel
theorem dX10_changeOn_16 : decode cX10_changeOn 16 = .ok (.iadd, 1) := by decide +kernel
theorem dX10_changeOn_17 : decode cX10_changeOn 17 = .ok (.iconst 1, 1) := by decide +kernel
theorem dX10_changeOn_18 : decode cX10_changeOn 18 = .ok (.iadd, 1) := by decide +kernel
theorem dX10_changeOn_19 : decode cX10_changeOn 19 = .ok (.iaload, 1) := by decide +kernel
theorem dX10_changeOn_20 : decode cX10_changeOn 20 = .ok (.iastore, 1) := by decide +kernel
theorem dX10_changeOn_21 : decode cX10_changeOn 21 = .ok (.aload_n 0, 1) := by decide +kernel
theorem dX10_changeOn_22 : decode cX10_changeOn 22 = .ok (.bipush 25, 2) := by decide +kernel
theorem dX10_changeOn_24 : decode cX10_changeOn 24 = .ok (.iload_n 1, 1) := by decide +kernel
theorem dX10_changeOn_25 : decode cX10_changeOn 25 = .ok (.iadd, 1) := by decide +kernel
theorem dX10_changeOn_26 : decode cX10_changeOn 26 = .ok (.iconst 1, 1) := by decide +kernel
theorem dX10_changeOn_27 : decode cX10_changeOn 27 = .ok (.iadd, 1) := by decide +kernel
theorem dX10_changeOn_28 : decode cX10_changeOn 28 = .ok (.iload_n 2, 1) := by decide +kernel
theorem dX10_changeOn_29 : decode cX10_changeOn 29 = .ok (.iastore, 1) := by decide +kernel
theorem dX10_changeOn_30 : decode cX10_changeOn 30 = .ok (.return_, 1) := by decide +kernel
theorem dX10_change_0 : decode cX10_change 0 = .ok (.aload_n 0, 1) := by decide +kernel
theorem dX10_change_1 : decode cX10_change 1 = .ok (.iload_n 1, 1) := by decide +kernel
theorem dX10_change_2 : decode cX10_change 2 = .ok (.invokevirtual 189, 3) := by decide +kernel
theorem dX10_change_5 : decode cX10_change 5 = .ok (.ifCond .ne 5, 3) := by decide +kernel
theorem dX10_change_8 : decode cX10_change 8 = .ok (.iconst (-1), 1) := by decide +kernel
theorem dX10_change_9 : decode cX10_change 9 = .ok (.ireturn, 1) := by decide +kernel
theorem dX10_change_10 : decode cX10_change 10 = .ok (.aload_n 0, 1) := by decide +kernel
theorem dX10_change_11 : decode cX10_change 11 = .ok (.getfield 13, 3) := by decide +kernel
theorem dX10_change_14 : decode cX10_change 14 = .ok (.iload_n 1, 1) := by decide +kernel
theorem dX10_change_15 : decode cX10_change 15 = .ok (.invokestatic 192, 3) := by decide +kernel
theorem dX10_change_18 : decode cX10_change 18 = .ok (.ifCond .ne 6, 3) := by decide +kernel
theorem dX10_change_21 : decode cX10_change 21 = .ok (.bipush (-3), 2) := by decide +kernel
theorem dX10_change_23 : decode cX10_change 23 = .ok (.ireturn, 1) := by decide +kernel
theorem dX10_change_24 : decode cX10_change 24 = .ok (.aload_n 0, 1) := by decide +kernel
theorem dX10_change_25 : decode cX10_change 25 = .ok (.invokevirtual 182, 3) := by decide +kernel
theorem dX10_change_28 : decode cX10_change 28 = .ok (.aload_n 0, 1) := by decide +kernel
theorem dX10_change_29 : decode cX10_change 29 = .ok (.getfield 13, 3) := by decide +kernel
theorem dX10_change_32 : decode cX10_change 32 = .ok (.iload_n 1, 1) := by decide +kernel
theorem dX10_change_33 : decode cX10_change 33 = .ok (.invokestatic 196, 3) := by decide +kernel
theorem dX10_change_36 : decode cX10_change 36 = .ok (.aload_n 0, 1) := by decide +kernel
theorem dX10_change_37 : decode cX10_change 37 = .ok (.aload_n 0, 1) := by decide +kernel
theorem dX10_change_38 : decode cX10_change 38 = .ok (.getfield 13, 3) := by decide +kernel
theorem dX10_change_41 : decode cX10_change 41 = .ok (.invokevirtual 111, 3) := by decide +kernel
theorem dX10_change_44 : decode cX10_change 44 = .ok (.ireturn, 1) := by decide +kernel
theorem dX10_quicken_0 : decode cX10_quicken 0 = .ok (.aload_n 0, 1) := by decide +kernel
theorem dX10_quicken_1 : decode cX10_quicken 1 = .ok (.invokevirtual 182, 3) := by decide +kernel
theorem dX10_quicken_4 : decode cX10_quicken 4 = .ok (.aload_n 0, 1) := by decide +kernel
theorem dX10_quicken_5 : decode cX10_quicken 5 = .ok (.aload_n 0, 1) := by decide +kernel
theorem dX10_quicken_6 : decode cX10_quicken 6 = .ok (.getfield 13, 3) := by decide +kernel
theorem dX10_quicken_9 : decode cX10_quicken 9 = .ok (.invokevirtual 147, 3) := by decide +kernel
theorem dX10_quicken_12 : decode cX10_quicken 12 = .ok (.aload_n 0, 1) := by decide +kernel
theorem dX10_quicken_13 : decode cX10_quicken 13 = .ok (.aload_n 0, 1) := by decide +kernel
theorem dX10_quicken_14 : decode cX10_quicken 14 = .ok (.getfield 13, 3) := by decide +kernel
theorem dX10_quicken_17 : decode cX10_quicken 17 = .ok (.invokevirtual 111, 3) := by decide +kernel
theorem dX10_quicken_20 : decode cX10_quicken 20 = .ok (.ireturn, 1) := by decide +kernel
theorem dX10_set_0 : decode cX10_set 0 = .ok (.aload_n 0, 1) := by decide +kernel
theorem dX10_set_1 : decode cX10_set 1 = .ok (.iload_n 1, 1) := by decide +kernel
theorem dX10_set_2 : decode cX10_set 2 = .ok (.invokevirtual 156, 3) := by decide +kernel
theorem dX10_set_5 : decode cX10_set 5 = .ok (.ifCond .ne 5, 3) := by decide +kernel
theorem dX10_set_8 : decode cX10_set 8 = .ok (.iconst (-1), 1) := by decide +kernel
theorem dX10_set_9 : decode cX10_set 9 = .ok (.ireturn, 1) := by decide +kernel
theorem dX10_set_10 : decode cX10_set 10 = .ok (.iload_n 2, 1) := by decide +kernel
theorem dX10_set_11 : decode cX10_set 11 = .ok (.ifCond .ne 8, 3) := by decide +kernel
theorem dX10_set_14 : decode cX10_set 14 = .ok (.bipush 9, 2) := by decide +kernel
theorem dX10_set_16 : decode cX10_set 16 = .ok (.goto 13, 3) := by decide +kernel
theorem dX10_set_19 : decode cX10_set 19 = .ok (.iload_n 2, 1) := by decide +kernel
theorem dX10_set_20 : decode cX10_set 20 = .ok (.iconst 1, 1) := by decide +kernel
theorem dX10_set_21 : decode cX10_set 21 = .ok (.if_icmp .ne 7, 3) := by decide +kernel
theorem dX10_set_24 : decode cX10_set 24 = .ok (.iconst 5, 1) := by decide +kernel
theorem dX10_set_25 : decode cX10_set 25 = .ok (.goto 4, 3) := by decide +kernel
theorem dX10_set_28 : decode cX10_set 28 = .ok (.iconst 3, 1) := by decide +kernel
theorem dX10_set_29 : decode cX10_set 29 = .ok (.istore 4, 2) := by decide +kernel
theorem dX10_set_31 : decode cX10_set 31 = .ok (.iload_n 2, 1) := by decide +kernel
theorem dX10_set_32 : decode cX10_set 32 = .ok (.i2l, 1) := by decide +kernel
theorem dX10_set_33 : decode cX10_set 33 = .ok (.lconst 0, 1) := by decide +kernel
theorem dX10_set_34 : decode cX10_set 34 = .ok (.ldc2_w 199, 3) := by decide +kernel
theorem dX10_set_37 : decode cX10_set 37 = .ok (.invokestatic 61, 3) := by decide +kernel
theorem dX10_set_40 : decode cX10_set 40 = .ok (.ifCond .eq 24, 3) := by decide +kernel
theorem dX10_set_43 : decode cX10_set 43 = .ok (.iload_n 2, 1) := by decide +kernel
theorem dX10_set_44 : decode cX10_set 44 = .ok (.iconst 2, 1) := by decide +kernel
theorem dX10_set_45 : decode cX10_set 45 = .ok (.if_icmp .ne 7, 3) := by decide +kernel
theorem dX10_set_48 : decode cX10_set 48 = .ok (.iload_n 1, 1) := by decide +kernel
theorem dX10_set_49 : decode cX10_set 49 = .ok (.ifCond .ne 15, 3) := by decide +kernel
theorem dX10_set_52 : decode cX10_set 52 = .ok (.iload_n 3, 1) := by decide +kernel
theorem dX10_set_53 : decode cX10_set 53 = .ok (.i2l, 1) := by decide +kernel
theorem dX10_set_54 : decode cX10_set 54 = .ok (.lconst 1, 1) := by decide +kernel
theorem dX10_set_55 : decode cX10_set 55 = .ok (.iload 4, 2) := by decide +kernel
theorem dX10_set_57 : decode cX10_set 57 = .ok (.i2l, 1) := by decide +kernel
theorem dX10_set_58 : decode cX10_set 58 = .ok (.invokestatic 61, 3) := by decide +kernel
theorem dX10_set_61 : decode cX10_set 61 = .ok (.ifCond .ne 6, 3) := by decide +kernel
theorem dX10_set_64 : decode cX10_set 64 = .ok (.bipush (-2), 2) := by decide +kernel
theorem dX10_set_66 : decode cX10_set 66 = .ok (.ireturn, 1) := by decide +kernel
theorem dX10_set_67 : decode cX10_set 67 = .ok (.aload_n 0, 1) := by decide +kernel
theorem dX10_set_68 : decode cX10_set 68 = .ok (.invokevirtual 182, 3) := by decide +kernel
theorem dX10_set_71 : decode cX10_set 71 = .ok (.iload_n 2, 1) := by decide +kernel
theorem dX10_set_72 : decode cX10_set 72 = .ok (.ifCond .ne 9, 3) := by decide +kernel
theorem dX10_set_75 : decode cX10_set 75 = .ok (.iconst 1, 1) := by decide +kernel
theorem dX10_set_76 : decode cX10_set 76 = .ok (.iload_n 1, 1) := by decide +kernel
theorem dX10_set_77 : decode cX10_set 77 = .ok (.iadd, 1) := by decide +kernel
theorem dX10_set_78 : decode cX10_set 78 = .ok (.goto 16, 3) := by decide +kernel
theorem dX10_set_81 : decode cX10_set 81 = .ok (.iload_n 2, 1) := by decide +kernel
theorem dX10_set_82 : decode cX10_set 82 = .ok (.iconst 1, 1) := by decide +kernel
theorem dX10_set_83 : decode cX10_set 83 = .ok (.if_icmp .ne 10, 3) := by decide +kernel
theorem dX10_set_86 : decode cX10_set 86 = .ok (.bipush 9, 2) := by decide +kernel
theorem dX10_set_88 : decode cX10_set 88 = .ok (.iload_n 1, 1) := by decide +kernel
theorem dX10_set_89 : decode cX10_set 89 = .ok (.iadd, 1) := by decide +kernel
theorem dX10_set_90 : decode cX10_set 90 = .ok (.goto 4, 3) := by decide +kernel
theorem dX10_set_93 : decode cX10_set 93 = .ok (.iconst 0, 1) := by decide +kernel
theorem dX10_set_94 : decode cX10_set 94 = .ok (.istore 5, 2) := by decide +kernel
theorem dX10_set_96 : decode cX10_set 96 = .ok (.aload_n 0, 1) := by decide +kernel
theorem dX10_set_97 : decode cX10_set 97 = .ok (.getfield 13, 3) := by decide +kernel
theorem dX10_set_100 : decode cX10_set 100 = .ok (.iload 5, 2) := by decide +kernel
theorem dX10_set_102 : decode cX10_set 102 = .ok (.iaload, 1) := by decide +kernel
theorem dX10_set_103 : decode cX10_set 103 = .ok (.istore 6, 2) := by decide +kernel
theorem dX10_set_105 : decode cX10_set 105 = .ok (.aload_n 0, 1) := by decide +kernel
theorem dX10_set_106 : decode cX10_set 106 = .ok (.getfield 13, 3) := by decide +kernel
theorem dX10_set_109 : decode cX10_set 109 = .ok (.iload 5, 2) := by decide +kernel
theorem dX10_set_111 : decode cX10_set 111 = .ok (.iload_n 3, 1) := by decide +kernel
theorem dX10_set_112 : decode cX10_set 112 = .ok (.iastore, 1) := by decide +kernel
theorem dX10_set_113 : decode cX10_set 113 = .ok (.iload 6, 2) := by decide +kernel
theorem dX10_set_115 : decode cX10_set 115 = .ok (.ireturn, 1) := by decide +kernel
theorem dX10_undo_0 : decode cX10_undo 0 = .ok (.aload_n 0, 1) := by decide +kernel
theorem dX10_undo_1 : decode cX10_undo 1 = .ok (.getfield 108, 3) := by decide +kernel
theorem dX10_undo_4 : decode cX10_undo 4 = .ok (.ifCond .ne 6, 3) := by decide +kernel
theorem dX10_undo_7 : decode cX10_undo 7 = .ok (.bipush (-3), 2) := by decide +kernel
theorem dX10_undo_9 : decode cX10_undo 9 = .ok (.ireturn, 1) := by decide +kernel
theorem dX10_undo_10 : decode cX10_undo 10 = .ok (.aload_n 0, 1) := by decide +kernel
theorem dX10_undo_11 : decode cX10_undo 11 = .ok (.dup, 1) := by decide +kernel
theorem dX10_undo_12 : decode cX10_undo 12 = .ok (.getfield 108, 3) := by decide +kernel
theorem dX10_undo_15 : decode cX10_undo 15 = .ok (.iconst 1, 1) := by decide +kernel
theorem dX10_undo_16 : decode cX10_undo 16 = .ok (.isub, 1) := by decide +kernel
theorem dX10_undo_17 : decode cX10_undo 17 = .ok (.putfield 108, 3) := by decide +kernel
theorem dX10_undo_20 : decode cX10_undo 20 = .ok (.aload_n 0, 1) := by decide +kernel
theorem dX10_undo_21 : decode cX10_undo 21 = .ok (.aload_n 0, 1) := by decide +kernel
theorem dX10_undo_22 : decode cX10_undo 22 = .ok (.getfield 172, 3) := by decide +kernel
theorem dX10_undo_25 : decode cX10_undo 25 = .ok (.bipush 14, 2) := by decide +kernel
theorem dX10_undo_27 : decode cX10_undo 27 = .ok (.iadd, 1) := by decide +kernel
theorem dX10_undo_28 : decode cX10_undo 28 = .ok (.iconst 1, 1) := by decide +kernel
theorem dX10_undo_29 : decode cX10_undo 29 = .ok (.isub, 1) := by decide +kernel
theorem dX10_undo_30 : decode cX10_undo 30 = .ok (.bipush 14, 2) := by decide +kernel
theorem dX10_undo_32 : decode cX10_undo 32 = .ok (.irem, 1) := by decide +kernel
theorem dX10_undo_33 : decode cX10_undo 33 = .ok (.putfield 172, 3) := by decide +kernel
theorem dX10_undo_36 : decode cX10_undo 36 = .ok (.iconst 0, 1) := by decide +kernel
theorem dX10_undo_37 : decode cX10_undo 37 = .ok (.istore_n 1, 1) := by decide +kernel
theorem dX10_undo_38 : decode cX10_undo 38 = .ok (.iload_n 1, 1) := by decide +kernel
theorem dX10_undo_39 : decode cX10_undo 39 = .ok (.bipush 33, 2) := by decide +kernel
theorem dX10_undo_41 : decode cX10_undo 41 = .ok (.if_icmp .ge 29, 3) := by decide +kernel
theorem dX10_undo_44 : decode cX10_undo 44 = .ok (.aload_n 0, 1) := by decide +kernel
theorem dX10_undo_45 : decode cX10_undo 45 = .ok (.getfield 13, 3) := by decide +kernel
theorem dX10_undo_48 : decode cX10_undo 48 = .ok (.iload_n 1, 1) := by decide +kernel
theorem dX10_undo_49 : decode cX10_undo 49 = .ok (.aload_n 0, 1) := by decide +kernel
theorem dX10_undo_50 : decode cX10_undo 50 = .ok (.getfield 19, 3) := by decide +kernel
theorem dX10_undo_53 : decode cX10_undo 53 = .ok (.bipush 33, 2) := by decide +kernel
theorem dX10_undo_55 : decode cX10_undo 55 = .ok (.aload_n 0, 1) := by decide +kernel
theorem dX10_undo_56 : decode cX10_undo 56 = .ok (.getfield 172, 3) := by decide +kernel
theorem dX10_undo_59 : decode cX10_undo 59 = .ok (.imul, 1) := by decide +kernel
theorem dX10_undo_60 : decode cX10_undo 60 = .ok (.iload_n 1, 1) := by decide +kernel
theorem dX10_undo_61 : decode cX10_undo 61 = .ok (.iadd, 1) := by decide +kernel
theorem dX10_undo_62 : decode cX10_undo 62 = .ok (.iaload, 1) := by decide +kernel
theorem dX10_undo_63 : decode cX10_undo 63 = .ok (.iastore, 1) := by decide +kernel
theorem dX10_undo_64 : decode cX10_undo 64 = .ok (.iinc 1 1, 3) := by decide +kernel
theorem dX10_undo_67 : decode cX10_undo 67 = .ok (.goto (-29), 3) := by decide +kernel
theorem dX10_undo_70 : decode cX10_undo 70 = .ok (.aload_n 0, 1) := by decide +kernel
theorem dX10_undo_71 : decode cX10_undo 71 = .ok (.getfield 108, 3) := by decide +kernel
theorem dX10_undo_74 : decode cX10_undo 74 = .ok (.ireturn, 1) := by decide +kernel
theorem dX10_layMany_0 : decode cX10_layMany 0 = .ok (.aload_n 0, 1) := by decide +kernel
theorem dX10_layMany_1 : decode cX10_layMany 1 = .ok (.getfield 13, 3) := by decide +kernel
theorem dX10_layMany_4 : decode cX10_layMany 4 = .ok (.iconst 1, 1) := by decide +kernel
theorem dX10_layMany_5 : decode cX10_layMany 5 = .ok (.iload_n 1, 1) := by decide +kernel
theorem dX10_layMany_6 : decode cX10_layMany 6 = .ok (.iadd, 1) := by decide +kernel
theorem dX10_layMany_7 : decode cX10_layMany 7 = .ok (.iaload, 1) := by decide +kernel
theorem dX10_layMany_8 : decode cX10_layMany 8 = .ok (.istore_n 2, 1) := by decide +kernel
theorem dX10_layMany_9 : decode cX10_layMany 9 = .ok (.aload_n 0, 1) := by decide +kernel
theorem dX10_layMany_10 : decode cX10_layMany 10 = .ok (.getfield 13, 3) := by decide +kernel
theorem dX10_layMany_13 : decode cX10_layMany 13 = .ok (.bipush 9, 2) := by decide +kernel
theorem dX10_layMany_15 : decode cX10_layMany 15 = .ok (.iload_n 1, 1) := by decide +kernel
theorem dX10_layMany_16 : decode cX10_layMany 16 = .ok (.iadd, 1) := by decide +kernel
theorem dX10_layMany_17 : decode cX10_layMany 17 = .ok (.iaload, 1) := by decide +kernel
theorem dX10_layMany_18 : decode cX10_layMany 18 = .ok (.istore_n 3, 1) := by decide +kernel
theorem dX10_layMany_19 : decode cX10_layMany 19 = .ok (.iconst 0, 1) := by decide +kernel
theorem dX10_layMany_20 : decode cX10_layMany 20 = .ok (.istore 4, 2) := by decide +kernel
theorem dX10_layMany_22 : decode cX10_layMany 22 = .ok (.iload 4, 2) := by decide +kernel
theorem dX10_layMany_24 : decode cX10_layMany 24 = .ok (.bipush 60, 2) := by decide +kernel
theorem dX10_layMany_26 : decode cX10_layMany 26 = .ok (.if_icmp .gt 54, 3) := by decide +kernel
theorem dX10_layMany_29 : decode cX10_layMany 29 = .ok (.aload_n 0, 1) := by decide +kernel
theorem dX10_layMany_30 : decode cX10_layMany 30 = .ok (.getfield 50, 3) := by decide +kernel
theorem dX10_layMany_33 : decode cX10_layMany 33 = .ok (.iload 4, 2) := by decide +kernel
theorem dX10_layMany_35 : decode cX10_layMany 35 = .ok (.lconst 1, 1) := by decide +kernel
theorem dX10_layMany_36 : decode cX10_layMany 36 = .ok (.lastore, 1) := by decide +kernel
theorem dX10_layMany_37 : decode cX10_layMany 37 = .ok (.iload 4, 2) := by decide +kernel
theorem dX10_layMany_39 : decode cX10_layMany 39 = .ok (.iload_n 2, 1) := by decide +kernel
theorem dX10_layMany_40 : decode cX10_layMany 40 = .ok (.isub, 1) := by decide +kernel
theorem dX10_layMany_41 : decode cX10_layMany 41 = .ok (.istore 5, 2) := by decide +kernel
theorem dX10_layMany_43 : decode cX10_layMany 43 = .ok (.iload 5, 2) := by decide +kernel
theorem dX10_layMany_45 : decode cX10_layMany 45 = .ok (.ifCond .lt 29, 3) := by decide +kernel
theorem dX10_layMany_48 : decode cX10_layMany 48 = .ok (.aload_n 0, 1) := by decide +kernel
theorem dX10_layMany_49 : decode cX10_layMany 49 = .ok (.getfield 50, 3) := by decide +kernel
theorem dX10_layMany_52 : decode cX10_layMany 52 = .ok (.iload 4, 2) := by decide +kernel
theorem dX10_layMany_54 : decode cX10_layMany 54 = .ok (.dup2, 1) := by decide +kernel
theorem dX10_layMany_55 : decode cX10_layMany 55 = .ok (.laload, 1) := by decide +kernel
theorem dX10_layMany_56 : decode cX10_layMany 56 = .ok (.aload_n 0, 1) := by decide +kernel
theorem dX10_layMany_57 : decode cX10_layMany 57 = .ok (.getfield 50, 3) := by decide +kernel
theorem dX10_layMany_60 : decode cX10_layMany 60 = .ok (.iload 5, 2) := by decide +kernel
theorem dX10_layMany_62 : decode cX10_layMany 62 = .ok (.laload, 1) := by decide +kernel
theorem dX10_layMany_63 : decode cX10_layMany 63 = .ok (.ladd, 1) := by decide +kernel
theorem dX10_layMany_64 : decode cX10_layMany 64 = .ok (.lastore, 1) := by decide +kernel
theorem dX10_layMany_65 : decode cX10_layMany 65 = .ok (.iload 5, 2) := by decide +kernel
theorem dX10_layMany_67 : decode cX10_layMany 67 = .ok (.iload_n 3, 1) := by decide +kernel
theorem dX10_layMany_68 : decode cX10_layMany 68 = .ok (.isub, 1) := by decide +kernel
theorem dX10_layMany_69 : decode cX10_layMany 69 = .ok (.istore 5, 2) := by decide +kernel
theorem dX10_layMany_71 : decode cX10_layMany 71 = .ok (.goto (-28), 3) := by decide +kernel
theorem dX10_layMany_74 : decode cX10_layMany 74 = .ok (.iinc 4 1, 3) := by decide +kernel
theorem dX10_layMany_77 : decode cX10_layMany 77 = .ok (.goto (-55), 3) := by decide +kernel
theorem dX10_layMany_80 : decode cX10_layMany 80 = .ok (.return_, 1) := by decide +kernel
theorem dX10_number_0 : decode cX10_number 0 = .ok (.aload_n 0, 1) := by decide +kernel
theorem dX10_number_1 : decode cX10_number 1 = .ok (.iload_n 1, 1) := by decide +kernel
theorem dX10_number_2 : decode cX10_number 2 = .ok (.invokevirtual 156, 3) := by decide +kernel
theorem dX10_number_5 : decode cX10_number 5 = .ok (.ifCond .ne 7, 3) := by decide +kernel
theorem dX10_number_8 : decode cX10_number 8 = .ok (.ldc2_w 201, 3) := by decide +kernel
theorem dX10_number_11 : decode cX10_number 11 = .ok (.lreturn, 1) := by decide +kernel
theorem dX10_number_12 : decode cX10_number 12 = .ok (.iload_n 2, 1) := by decide +kernel
theorem dX10_number_13 : decode cX10_number 13 = .ok (.i2l, 1) := by decide +kernel
theorem dX10_number_14 : decode cX10_number 14 = .ok (.lconst 0, 1) := by decide +kernel
theorem dX10_number_15 : decode cX10_number 15 = .ok (.ldc2_w 203, 3) := by decide +kernel
theorem dX10_number_18 : decode cX10_number 18 = .ok (.invokestatic 61, 3) := by decide +kernel
theorem dX10_number_21 : decode cX10_number 21 = .ok (.ifCond .ne 7, 3) := by decide +kernel
theorem dX10_number_24 : decode cX10_number 24 = .ok (.ldc2_w 205, 3) := by decide +kernel
theorem dX10_number_27 : decode cX10_number 27 = .ok (.lreturn, 1) := by decide +kernel
theorem dX10_number_28 : decode cX10_number 28 = .ok (.aload_n 0, 1) := by decide +kernel
theorem dX10_number_29 : decode cX10_number 29 = .ok (.iload_n 1, 1) := by decide +kernel
theorem dX10_number_30 : decode cX10_number 30 = .ok (.invokevirtual 207, 3) := by decide +kernel
theorem dX10_number_33 : decode cX10_number 33 = .ok (.aload_n 0, 1) := by decide +kernel
theorem dX10_number_34 : decode cX10_number 34 = .ok (.getfield 50, 3) := by decide +kernel
theorem dX10_number_37 : decode cX10_number 37 = .ok (.iload_n 2, 1) := by decide +kernel
theorem dX10_number_38 : decode cX10_number 38 = .ok (.laload, 1) := by decide +kernel
theorem dX10_number_39 : decode cX10_number 39 = .ok (.lreturn, 1) := by decide +kernel
theorem dX10_soon_0 : decode cX10_soon 0 = .ok (.aload_n 0, 1) := by decide +kernel
theorem dX10_soon_1 : decode cX10_soon 1 = .ok (.iload_n 1, 1) := by decide +kernel
theorem dX10_soon_2 : decode cX10_soon 2 = .ok (.invokevirtual 156, 3) := by decide +kernel
theorem dX10_soon_5 : decode cX10_soon 5 = .ok (.ifCond .ne 5, 3) := by decide +kernel
theorem dX10_soon_8 : decode cX10_soon 8 = .ok (.iconst (-1), 1) := by decide +kernel
theorem dX10_soon_9 : decode cX10_soon 9 = .ok (.ireturn, 1) := by decide +kernel
theorem dX10_soon_10 : decode cX10_soon 10 = .ok (.iload_n 2, 1) := by decide +kernel
theorem dX10_soon_11 : decode cX10_soon 11 = .ok (.i2l, 1) := by decide +kernel
theorem dX10_soon_12 : decode cX10_soon 12 = .ok (.lconst 1, 1) := by decide +kernel
theorem dX10_soon_13 : decode cX10_soon 13 = .ok (.ldc2_w 211, 3) := by decide +kernel
theorem dX10_soon_16 : decode cX10_soon 16 = .ok (.invokestatic 61, 3) := by decide +kernel
theorem dX10_soon_19 : decode cX10_soon 19 = .ok (.ifCond .ne 6, 3) := by decide +kernel
theorem dX10_soon_22 : decode cX10_soon 22 = .ok (.bipush (-2), 2) := by decide +kernel
theorem dX10_soon_24 : decode cX10_soon 24 = .ok (.ireturn, 1) := by decide +kernel
theorem dX10_soon_25 : decode cX10_soon 25 = .ok (.aload_n 0, 1) := by decide +kernel
theorem dX10_soon_26 : decode cX10_soon 26 = .ok (.iload_n 1, 1) := by decide +kernel
theorem dX10_soon_27 : decode cX10_soon 27 = .ok (.invokevirtual 207, 3) := by decide +kernel
theorem dX10_soon_30 : decode cX10_soon 30 = .ok (.iconst 0, 1) := by decide +kernel
theorem dX10_soon_31 : decode cX10_soon 31 = .ok (.istore_n 3, 1) := by decide +kernel
theorem dX10_soon_32 : decode cX10_soon 32 = .ok (.iload_n 3, 1) := by decide +kernel
theorem dX10_soon_33 : decode cX10_soon 33 = .ok (.bipush 60, 2) := by decide +kernel
theorem dX10_soon_35 : decode cX10_soon 35 = .ok (.if_icmp .gt 23, 3) := by decide +kernel
theorem dX10_soon_38 : decode cX10_soon 38 = .ok (.aload_n 0, 1) := by decide +kernel
theorem dX10_soon_39 : decode cX10_soon 39 = .ok (.getfield 50, 3) := by decide +kernel
theorem dX10_soon_42 : decode cX10_soon 42 = .ok (.iload_n 3, 1) := by decide +kernel
theorem dX10_soon_43 : decode cX10_soon 43 = .ok (.laload, 1) := by decide +kernel
theorem dX10_soon_44 : decode cX10_soon 44 = .ok (.iload_n 2, 1) := by decide +kernel
theorem dX10_soon_45 : decode cX10_soon 45 = .ok (.i2l, 1) := by decide +kernel
theorem dX10_soon_46 : decode cX10_soon 46 = .ok (.lcmp, 1) := by decide +kernel
theorem dX10_soon_47 : decode cX10_soon 47 = .ok (.ifCond .lt 5, 3) := by decide +kernel
theorem dX10_soon_50 : decode cX10_soon 50 = .ok (.iload_n 3, 1) := by decide +kernel
theorem dX10_soon_51 : decode cX10_soon 51 = .ok (.ireturn, 1) := by decide +kernel
theorem dX10_soon_52 : decode cX10_soon 52 = .ok (.iinc 3 1, 3) := by decide +kernel
theorem dX10_soon_55 : decode cX10_soon 55 = .ok (.goto (-23), 3) := by decide +kernel
theorem dX10_soon_58 : decode cX10_soon 58 = .ok (.bipush (-9), 2) := by decide +kernel
theorem dX10_soon_60 : decode cX10_soon 60 = .ok (.ireturn, 1) := by decide +kernel
theorem dX10_knowers_0 : decode cX10_knowers 0 = .ok (.iload_n 1, 1) := by decide +kernel
theorem dX10_knowers_1 : decode cX10_knowers 1 = .ok (.i2l, 1) := by decide +kernel
theorem dX10_knowers_2 : decode cX10_knowers 2 = .ok (.lconst 0, 1) := by decide +kernel
theorem dX10_knowers_3 : decode cX10_knowers 3 = .ok (.aload_n 0, 1) := by decide +kernel
theorem dX10_knowers_4 : decode cX10_knowers 4 = .ok (.getfield 13, 3) := by decide +kernel
theorem dX10_knowers_7 : decode cX10_knowers 7 = .ok (.iconst 0, 1) := by decide +kernel
theorem dX10_knowers_8 : decode cX10_knowers 8 = .ok (.iaload, 1) := by decide +kernel
theorem dX10_knowers_9 : decode cX10_knowers 9 = .ok (.iconst 1, 1) := by decide +kernel
theorem dX10_knowers_10 : decode cX10_knowers 10 = .ok (.isub, 1) := by decide +kernel
theorem dX10_knowers_11 : decode cX10_knowers 11 = .ok (.i2l, 1) := by decide +kernel
theorem dX10_knowers_12 : decode cX10_knowers 12 = .ok (.invokestatic 61, 3) := by decide +kernel
theorem dX10_knowers_15 : decode cX10_knowers 15 = .ok (.ifCond .ne 5, 3) := by decide +kernel
theorem dX10_knowers_18 : decode cX10_knowers 18 = .ok (.iconst (-1), 1) := by decide +kernel
theorem dX10_knowers_19 : decode cX10_knowers 19 = .ok (.ireturn, 1) := by decide +kernel
theorem dX10_knowers_20 : decode cX10_knowers 20 = .ok (.iload_n 2, 1) := by decide +kernel
theorem dX10_knowers_21 : decode cX10_knowers 21 = .ok (.i2l, 1) := by decide +kernel
theorem dX10_knowers_22 : decode cX10_knowers 22 = .ok (.lconst 0, 1) := by decide +kernel
theorem dX10_knowers_23 : decode cX10_knowers 23 = .ok (.ldc2_w 213, 3) := by decide +kernel
theorem dX10_knowers_26 : decode cX10_knowers 26 = .ok (.invokestatic 61, 3) := by decide +kernel
theorem dX10_knowers_29 : decode cX10_knowers 29 = .ok (.ifCond .ne 6, 3) := by decide +kernel
theorem dX10_knowers_32 : decode cX10_knowers 32 = .ok (.bipush (-2), 2) := by decide +kernel
theorem dX10_knowers_34 : decode cX10_knowers 34 = .ok (.ireturn, 1) := by decide +kernel
theorem dX10_knowers_35 : decode cX10_knowers 35 = .ok (.aload_n 0, 1) := by decide +kernel
theorem dX10_knowers_36 : decode cX10_knowers 36 = .ok (.aload_n 0, 1) := by decide +kernel
theorem dX10_knowers_37 : decode cX10_knowers 37 = .ok (.getfield 13, 3) := by decide +kernel
theorem dX10_knowers_40 : decode cX10_knowers 40 = .ok (.invokevirtual 119, 3) := by decide +kernel
theorem dX10_knowers_43 : decode cX10_knowers 43 = .ok (.iconst 0, 1) := by decide +kernel
theorem dX10_knowers_44 : decode cX10_knowers 44 = .ok (.istore_n 3, 1) := by decide +kernel
theorem dX10_knowers_45 : decode cX10_knowers 45 = .ok (.iconst 0, 1) := by decide +kernel
theorem dX10_knowers_46 : decode cX10_knowers 46 = .ok (.istore 4, 2) := by decide +kernel
theorem dX10_knowers_48 : decode cX10_knowers 48 = .ok (.iload 4, 2) := by decide +kernel
theorem dX10_knowers_50 : decode cX10_knowers 50 = .ok (.aload_n 0, 1) := by decide +kernel
theorem dX10_knowers_51 : decode cX10_knowers 51 = .ok (.getfield 57, 3) := by decide +kernel
theorem dX10_knowers_54 : decode cX10_knowers 54 = .ok (.if_icmp .ge 35, 3) := by decide +kernel
theorem dX10_knowers_57 : decode cX10_knowers 57 = .ok (.iload_n 3, 1) := by decide +kernel
theorem dX10_knowers_58 : decode cX10_knowers 58 = .ok (.aload_n 0, 1) := by decide +kernel
theorem dX10_knowers_59 : decode cX10_knowers 59 = .ok (.getfield 35, 3) := by decide +kernel
theorem dX10_knowers_62 : decode cX10_knowers 62 = .ok (.iconst 3, 1) := by decide +kernel
theorem dX10_knowers_63 : decode cX10_knowers 63 = .ok (.iload 4, 2) := by decide +kernel
theorem dX10_knowers_65 : decode cX10_knowers 65 = .ok (.imul, 1) := by decide +kernel
theorem dX10_knowers_66 : decode cX10_knowers 66 = .ok (.iload_n 1, 1) := by decide +kernel
theorem dX10_knowers_67 : decode cX10_knowers 67 = .ok (.iadd, 1) := by decide +kernel
theorem dX10_knowers_68 : decode cX10_knowers 68 = .ok (.iaload, 1) := by decide +kernel
theorem dX10_knowers_69 : decode cX10_knowers 69 = .ok (.iload_n 2, 1) := by decide +kernel
theorem dX10_knowers_70 : decode cX10_knowers 70 = .ok (.if_icmp .gt 10, 3) := by decide +kernel
theorem dX10_knowers_73 : decode cX10_knowers 73 = .ok (.iconst 1, 1) := by decide +kernel
theorem dX10_knowers_74 : decode cX10_knowers 74 = .ok (.iload 4, 2) := by decide +kernel
theorem dX10_knowers_76 : decode cX10_knowers 76 = .ok (.ishl, 1) := by decide +kernel
theorem dX10_knowers_77 : decode cX10_knowers 77 = .ok (.goto 4, 3) := by decide +kernel
theorem dX10_knowers_80 : decode cX10_knowers 80 = .ok (.iconst 0, 1) := by decide +kernel
theorem dX10_knowers_81 : decode cX10_knowers 81 = .ok (.ior, 1) := by decide +kernel
theorem dX10_knowers_82 : decode cX10_knowers 82 = .ok (.istore_n 3, 1) := by decide +kernel
theorem dX10_knowers_83 : decode cX10_knowers 83 = .ok (.iinc 4 1, 3) := by decide +kernel
theorem dX10_knowers_86 : decode cX10_knowers 86 = .ok (.goto (-38), 3) := by decide +kernel
theorem dX10_knowers_89 : decode cX10_knowers 89 = .ok (.iload_n 3, 1) := by decide +kernel
theorem dX10_knowers_90 : decode cX10_knowers 90 = .ok (.ireturn, 1) := by decide +kernel
theorem dX10_judged_0 : decode cX10_judged 0 = .ok (.iload_n 1, 1) := by decide +kernel
theorem dX10_judged_1 : decode cX10_judged 1 = .ok (.tableswitch 254 1 7 #[43, 90, 125, 145, 170, 193, 227], 43) := by decide +kernel
theorem dX10_judged_44 : decode cX10_judged 44 = .ok (.aload_n 0, 1) := by decide +kernel
theorem dX10_judged_45 : decode cX10_judged 45 = .ok (.iload_n 2, 1) := by decide +kernel
theorem dX10_judged_46 : decode cX10_judged 46 = .ok (.invokevirtual 156, 3) := by decide +kernel
theorem dX10_judged_49 : decode cX10_judged 49 = .ok (.ifCond .eq 28, 3) := by decide +kernel
theorem dX10_judged_52 : decode cX10_judged 52 = .ok (.iload_n 2, 1) := by decide +kernel
theorem dX10_judged_53 : decode cX10_judged 53 = .ok (.ifCond .eq 24, 3) := by decide +kernel
theorem dX10_judged_56 : decode cX10_judged 56 = .ok (.aload_n 0, 1) := by decide +kernel
theorem dX10_judged_57 : decode cX10_judged 57 = .ok (.iload_n 3, 1) := by decide +kernel
theorem dX10_judged_58 : decode cX10_judged 58 = .ok (.invokevirtual 156, 3) := by decide +kernel
theorem dX10_judged_61 : decode cX10_judged 61 = .ok (.ifCond .eq 16, 3) := by decide +kernel
theorem dX10_judged_64 : decode cX10_judged 64 = .ok (.aload_n 0, 1) := by decide +kernel
theorem dX10_judged_65 : decode cX10_judged 65 = .ok (.aload_n 0, 1) := by decide +kernel
theorem dX10_judged_66 : decode cX10_judged 66 = .ok (.getfield 16, 3) := by decide +kernel
theorem dX10_judged_69 : decode cX10_judged 69 = .ok (.iload_n 2, 1) := by decide +kernel
theorem dX10_judged_70 : decode cX10_judged 70 = .ok (.iload_n 3, 1) := by decide +kernel
theorem dX10_judged_71 : decode cX10_judged 71 = .ok (.invokevirtual 178, 3) := by decide +kernel
theorem dX10_judged_74 : decode cX10_judged 74 = .ok (.ifCond .ne 5, 3) := by decide +kernel
theorem dX10_judged_77 : decode cX10_judged 77 = .ok (.iconst 0, 1) := by decide +kernel
theorem dX10_judged_78 : decode cX10_judged 78 = .ok (.ireturn, 1) := by decide +kernel
theorem dX10_judged_79 : decode cX10_judged 79 = .ok (.aload_n 0, 1) := by decide +kernel
theorem dX10_judged_80 : decode cX10_judged 80 = .ok (.aload_n 0, 1) := by decide +kernel
theorem dX10_judged_81 : decode cX10_judged 81 = .ok (.getfield 16, 3) := by decide +kernel
theorem dX10_judged_84 : decode cX10_judged 84 = .ok (.iload_n 2, 1) := by decide +kernel
theorem dX10_judged_85 : decode cX10_judged 85 = .ok (.iload_n 3, 1) := by decide +kernel
theorem dX10_judged_86 : decode cX10_judged 86 = .ok (.invokevirtual 185, 3) := by decide +kernel
theorem dX10_judged_89 : decode cX10_judged 89 = .ok (.iconst 1, 1) := by decide +kernel
theorem dX10_judged_90 : decode cX10_judged 90 = .ok (.ireturn, 1) := by decide +kernel
theorem dX10_judged_91 : decode cX10_judged 91 = .ok (.iload_n 2, 1) := by decide +kernel
theorem dX10_judged_92 : decode cX10_judged 92 = .ok (.ifCond .ne 22, 3) := by decide +kernel
theorem dX10_judged_95 : decode cX10_judged 95 = .ok (.aload_n 0, 1) := by decide +kernel
theorem dX10_judged_96 : decode cX10_judged 96 = .ok (.iload_n 3, 1) := by decide +kernel
theorem dX10_judged_97 : decode cX10_judged 97 = .ok (.invokevirtual 189, 3) := by decide +kernel
theorem dX10_judged_100 : decode cX10_judged 100 = .ok (.ifCond .eq 14, 3) := by decide +kernel
theorem dX10_judged_103 : decode cX10_judged 103 = .ok (.aload_n 0, 1) := by decide +kernel
theorem dX10_judged_104 : decode cX10_judged 104 = .ok (.getfield 16, 3) := by decide +kernel
theorem dX10_judged_107 : decode cX10_judged 107 = .ok (.iload_n 3, 1) := by decide +kernel
theorem dX10_judged_108 : decode cX10_judged 108 = .ok (.invokestatic 192, 3) := by decide +kernel
theorem dX10_judged_111 : decode cX10_judged 111 = .ok (.ifCond .ne 5, 3) := by decide +kernel
theorem dX10_judged_114 : decode cX10_judged 114 = .ok (.iconst 0, 1) := by decide +kernel
theorem dX10_judged_115 : decode cX10_judged 115 = .ok (.ireturn, 1) := by decide +kernel
theorem dX10_judged_116 : decode cX10_judged 116 = .ok (.aload_n 0, 1) := by decide +kernel
theorem dX10_judged_117 : decode cX10_judged 117 = .ok (.getfield 16, 3) := by decide +kernel
theorem dX10_judged_120 : decode cX10_judged 120 = .ok (.iload_n 3, 1) := by decide +kernel
theorem dX10_judged_121 : decode cX10_judged 121 = .ok (.invokestatic 196, 3) := by decide +kernel
theorem dX10_judged_124 : decode cX10_judged 124 = .ok (.iconst 1, 1) := by decide +kernel
theorem dX10_judged_125 : decode cX10_judged 125 = .ok (.ireturn, 1) := by decide +kernel
theorem dX10_judged_126 : decode cX10_judged 126 = .ok (.iload_n 2, 1) := by decide +kernel
theorem dX10_judged_127 : decode cX10_judged 127 = .ok (.ifCond .ne 7, 3) := by decide +kernel
theorem dX10_judged_130 : decode cX10_judged 130 = .ok (.iload_n 3, 1) := by decide +kernel
theorem dX10_judged_131 : decode cX10_judged 131 = .ok (.ifCond .eq 5, 3) := by decide +kernel
theorem dX10_judged_134 : decode cX10_judged 134 = .ok (.iconst 0, 1) := by decide +kernel
theorem dX10_judged_135 : decode cX10_judged 135 = .ok (.ireturn, 1) := by decide +kernel
theorem dX10_judged_136 : decode cX10_judged 136 = .ok (.aload_n 0, 1) := by decide +kernel
theorem dX10_judged_137 : decode cX10_judged 137 = .ok (.aload_n 0, 1) := by decide +kernel
theorem dX10_judged_138 : decode cX10_judged 138 = .ok (.getfield 16, 3) := by decide +kernel
theorem dX10_judged_141 : decode cX10_judged 141 = .ok (.invokevirtual 147, 3) := by decide +kernel
theorem dX10_judged_144 : decode cX10_judged 144 = .ok (.iconst 1, 1) := by decide +kernel
theorem dX10_judged_145 : decode cX10_judged 145 = .ok (.ireturn, 1) := by decide +kernel
theorem dX10_judged_146 : decode cX10_judged 146 = .ok (.aload_n 0, 1) := by decide +kernel
theorem dX10_judged_147 : decode cX10_judged 147 = .ok (.iload_n 2, 1) := by decide +kernel
theorem dX10_judged_148 : decode cX10_judged 148 = .ok (.invokevirtual 156, 3) := by decide +kernel
theorem dX10_judged_151 : decode cX10_judged 151 = .ok (.ifCond .eq 7, 3) := by decide +kernel
theorem dX10_judged_154 : decode cX10_judged 154 = .ok (.iload_n 3, 1) := by decide +kernel
theorem dX10_judged_155 : decode cX10_judged 155 = .ok (.ifCond .ne 5, 3) := by decide +kernel
theorem dX10_judged_158 : decode cX10_judged 158 = .ok (.iconst 0, 1) := by decide +kernel
theorem dX10_judged_159 : decode cX10_judged 159 = .ok (.ireturn, 1) := by decide +kernel
theorem dX10_judged_160 : decode cX10_judged 160 = .ok (.aload_n 0, 1) := by decide +kernel
theorem dX10_judged_161 : decode cX10_judged 161 = .ok (.getfield 16, 3) := by decide +kernel
theorem dX10_judged_164 : decode cX10_judged 164 = .ok (.iconst 1, 1) := by decide +kernel
theorem dX10_judged_165 : decode cX10_judged 165 = .ok (.iload_n 2, 1) := by decide +kernel
theorem dX10_judged_166 : decode cX10_judged 166 = .ok (.iadd, 1) := by decide +kernel
theorem dX10_judged_167 : decode cX10_judged 167 = .ok (.iload_n 3, 1) := by decide +kernel
theorem dX10_judged_168 : decode cX10_judged 168 = .ok (.iastore, 1) := by decide +kernel
theorem dX10_judged_169 : decode cX10_judged 169 = .ok (.iconst 1, 1) := by decide +kernel
theorem dX10_judged_170 : decode cX10_judged 170 = .ok (.ireturn, 1) := by decide +kernel
theorem dX10_judged_171 : decode cX10_judged 171 = .ok (.aload_n 0, 1) := by decide +kernel
theorem dX10_judged_172 : decode cX10_judged 172 = .ok (.aload_n 0, 1) := by decide +kernel
theorem dX10_judged_173 : decode cX10_judged 173 = .ok (.getfield 16, 3) := by decide +kernel
theorem dX10_judged_176 : decode cX10_judged 176 = .ok (.invokevirtual 111, 3) := by decide +kernel
theorem dX10_judged_179 : decode cX10_judged 179 = .ok (.bipush 10, 2) := by decide +kernel
theorem dX10_judged_181 : decode cX10_judged 181 = .ok (.iload_n 2, 1) := by decide +kernel
theorem dX10_judged_182 : decode cX10_judged 182 = .ok (.imul, 1) := by decide +kernel
theorem dX10_judged_183 : decode cX10_judged 183 = .ok (.iload_n 3, 1) := by decide +kernel
theorem dX10_judged_184 : decode cX10_judged 184 = .ok (.iadd, 1) := by decide +kernel
theorem dX10_judged_185 : decode cX10_judged 185 = .ok (.if_icmp .ne 7, 3) := by decide +kernel
theorem dX10_judged_188 : decode cX10_judged 188 = .ok (.iconst 1, 1) := by decide +kernel
theorem dX10_judged_189 : decode cX10_judged 189 = .ok (.goto 4, 3) := by decide +kernel
theorem dX10_judged_192 : decode cX10_judged 192 = .ok (.iconst 0, 1) := by decide +kernel
theorem dX10_judged_193 : decode cX10_judged 193 = .ok (.ireturn, 1) := by decide +kernel
theorem dX10_judged_194 : decode cX10_judged 194 = .ok (.aload_n 0, 1) := by decide +kernel
theorem dX10_judged_195 : decode cX10_judged 195 = .ok (.aload_n 0, 1) := by decide +kernel
theorem dX10_judged_196 : decode cX10_judged 196 = .ok (.getfield 16, 3) := by decide +kernel
theorem dX10_judged_199 : decode cX10_judged 199 = .ok (.invokevirtual 119, 3) := by decide +kernel
theorem dX10_judged_202 : decode cX10_judged 202 = .ok (.aload_n 0, 1) := by decide +kernel
theorem dX10_judged_203 : decode cX10_judged 203 = .ok (.iload_n 2, 1) := by decide +kernel
theorem dX10_judged_204 : decode cX10_judged 204 = .ok (.invokevirtual 156, 3) := by decide +kernel
theorem dX10_judged_207 : decode cX10_judged 207 = .ok (.ifCond .eq 19, 3) := by decide +kernel
theorem dX10_judged_210 : decode cX10_judged 210 = .ok (.aload_n 0, 1) := by decide +kernel
theorem dX10_judged_211 : decode cX10_judged 211 = .ok (.getfield 35, 3) := by decide +kernel
theorem dX10_judged_214 : decode cX10_judged 214 = .ok (.iconst 3, 1) := by decide +kernel
theorem dX10_judged_215 : decode cX10_judged 215 = .ok (.iload_n 2, 1) := by decide +kernel
theorem dX10_judged_216 : decode cX10_judged 216 = .ok (.imul, 1) := by decide +kernel
theorem dX10_judged_217 : decode cX10_judged 217 = .ok (.iaload, 1) := by decide +kernel
theorem dX10_judged_218 : decode cX10_judged 218 = .ok (.iload_n 3, 1) := by decide +kernel
theorem dX10_judged_219 : decode cX10_judged 219 = .ok (.if_icmp .gt 7, 3) := by decide +kernel
theorem dX10_judged_222 : decode cX10_judged 222 = .ok (.iconst 1, 1) := by decide +kernel
theorem dX10_judged_223 : decode cX10_judged 223 = .ok (.goto 4, 3) := by decide +kernel
theorem dX10_judged_226 : decode cX10_judged 226 = .ok (.iconst 0, 1) := by decide +kernel
theorem dX10_judged_227 : decode cX10_judged 227 = .ok (.ireturn, 1) := by decide +kernel
theorem dX10_judged_228 : decode cX10_judged 228 = .ok (.aload_n 0, 1) := by decide +kernel
theorem dX10_judged_229 : decode cX10_judged 229 = .ok (.iload_n 2, 1) := by decide +kernel
theorem dX10_judged_230 : decode cX10_judged 230 = .ok (.invokevirtual 156, 3) := by decide +kernel
theorem dX10_judged_233 : decode cX10_judged 233 = .ok (.ifCond .eq 20, 3) := by decide +kernel
theorem dX10_judged_236 : decode cX10_judged 236 = .ok (.aload_n 0, 1) := by decide +kernel
theorem dX10_judged_237 : decode cX10_judged 237 = .ok (.aload_n 0, 1) := by decide +kernel
theorem dX10_judged_238 : decode cX10_judged 238 = .ok (.getfield 16, 3) := by decide +kernel
theorem dX10_judged_241 : decode cX10_judged 241 = .ok (.iload_n 2, 1) := by decide +kernel
theorem dX10_judged_242 : decode cX10_judged 242 = .ok (.invokevirtual 163, 3) := by decide +kernel
theorem dX10_judged_245 : decode cX10_judged 245 = .ok (.iload_n 3, 1) := by decide +kernel
theorem dX10_judged_246 : decode cX10_judged 246 = .ok (.if_icmp .ne 7, 3) := by decide +kernel
theorem dX10_judged_249 : decode cX10_judged 249 = .ok (.iconst 1, 1) := by decide +kernel
theorem dX10_judged_250 : decode cX10_judged 250 = .ok (.goto 4, 3) := by decide +kernel
theorem dX10_judged_253 : decode cX10_judged 253 = .ok (.iconst 0, 1) := by decide +kernel
theorem dX10_judged_254 : decode cX10_judged 254 = .ok (.ireturn, 1) := by decide +kernel
theorem dX10_judged_255 : decode cX10_judged 255 = .ok (.iconst 0, 1) := by decide +kernel
theorem dX10_judged_256 : decode cX10_judged 256 = .ok (.ireturn, 1) := by decide +kernel
theorem dX10_thousands_0 : decode cX10_thousands 0 = .ok (.lconst 1, 1) := by decide +kernel
theorem dX10_thousands_1 : decode cX10_thousands 1 = .ok (.lstore_n 1, 1) := by decide +kernel
theorem dX10_thousands_2 : decode cX10_thousands 2 = .ok (.iconst 0, 1) := by decide +kernel
theorem dX10_thousands_3 : decode cX10_thousands 3 = .ok (.istore_n 3, 1) := by decide +kernel
theorem dX10_thousands_4 : decode cX10_thousands 4 = .ok (.iload_n 3, 1) := by decide +kernel
theorem dX10_thousands_5 : decode cX10_thousands 5 = .ok (.iload_n 0, 1) := by decide +kernel
theorem dX10_thousands_6 : decode cX10_thousands 6 = .ok (.if_icmp .ge 15, 3) := by decide +kernel
theorem dX10_thousands_9 : decode cX10_thousands 9 = .ok (.lload_n 1, 1) := by decide +kernel
theorem dX10_thousands_10 : decode cX10_thousands 10 = .ok (.ldc2_w 215, 3) := by decide +kernel
theorem dX10_thousands_13 : decode cX10_thousands 13 = .ok (.lmul, 1) := by decide +kernel
theorem dX10_thousands_14 : decode cX10_thousands 14 = .ok (.lstore_n 1, 1) := by decide +kernel
theorem dX10_thousands_15 : decode cX10_thousands 15 = .ok (.iinc 3 1, 3) := by decide +kernel
theorem dX10_thousands_18 : decode cX10_thousands 18 = .ok (.goto (-14), 3) := by decide +kernel
theorem dX10_thousands_21 : decode cX10_thousands 21 = .ok (.lload_n 1, 1) := by decide +kernel
theorem dX10_thousands_22 : decode cX10_thousands 22 = .ok (.lreturn, 1) := by decide +kernel
theorem dX10_judge_0 : decode cX10_judge 0 = .ok (.iload_n 1, 1) := by decide +kernel
theorem dX10_judge_1 : decode cX10_judge 1 = .ok (.i2l, 1) := by decide +kernel
theorem dX10_judge_2 : decode cX10_judge 2 = .ok (.lconst 1, 1) := by decide +kernel
theorem dX10_judge_3 : decode cX10_judge 3 = .ok (.ldc2_w 217, 3) := by decide +kernel
theorem dX10_judge_6 : decode cX10_judge 6 = .ok (.invokestatic 61, 3) := by decide +kernel
theorem dX10_judge_9 : decode cX10_judge 9 = .ok (.ifCond .eq 17, 3) := by decide +kernel
theorem dX10_judge_12 : decode cX10_judge 12 = .ok (.lload_n 2, 1) := by decide +kernel
theorem dX10_judge_13 : decode cX10_judge 13 = .ok (.lconst 0, 1) := by decide +kernel
theorem dX10_judge_14 : decode cX10_judge 14 = .ok (.iload_n 1, 1) := by decide +kernel
theorem dX10_judge_15 : decode cX10_judge 15 = .ok (.invokestatic 219, 3) := by decide +kernel
theorem dX10_judge_18 : decode cX10_judge 18 = .ok (.lconst 1, 1) := by decide +kernel
theorem dX10_judge_19 : decode cX10_judge 19 = .ok (.lsub, 1) := by decide +kernel
theorem dX10_judge_20 : decode cX10_judge 20 = .ok (.invokestatic 61, 3) := by decide +kernel
theorem dX10_judge_23 : decode cX10_judge 23 = .ok (.ifCond .ne 6, 3) := by decide +kernel
theorem dX10_judge_26 : decode cX10_judge 26 = .ok (.bipush (-2), 2) := by decide +kernel
theorem dX10_judge_28 : decode cX10_judge 28 = .ok (.ireturn, 1) := by decide +kernel
theorem dX10_judge_29 : decode cX10_judge 29 = .ok (.aload_n 0, 1) := by decide +kernel
theorem dX10_judge_30 : decode cX10_judge 30 = .ok (.getfield 13, 3) := by decide +kernel
theorem dX10_judge_33 : decode cX10_judge 33 = .ok (.aload_n 0, 1) := by decide +kernel
theorem dX10_judge_34 : decode cX10_judge 34 = .ok (.getfield 16, 3) := by decide +kernel
theorem dX10_judge_37 : decode cX10_judge 37 = .ok (.invokestatic 104, 3) := by decide +kernel
theorem dX10_judge_40 : decode cX10_judge 40 = .ok (.iconst 0, 1) := by decide +kernel
theorem dX10_judge_41 : decode cX10_judge 41 = .ok (.istore 4, 2) := by decide +kernel
theorem dX10_judge_43 : decode cX10_judge 43 = .ok (.iload 4, 2) := by decide +kernel
theorem dX10_judge_45 : decode cX10_judge 45 = .ok (.iload_n 1, 1) := by decide +kernel
theorem dX10_judge_46 : decode cX10_judge 46 = .ok (.if_icmp .ge 55, 3) := by decide +kernel
theorem dX10_judge_49 : decode cX10_judge 49 = .ok (.lload_n 2, 1) := by decide +kernel
theorem dX10_judge_50 : decode cX10_judge 50 = .ok (.iload_n 1, 1) := by decide +kernel
theorem dX10_judge_51 : decode cX10_judge 51 = .ok (.iconst 1, 1) := by decide +kernel
theorem dX10_judge_52 : decode cX10_judge 52 = .ok (.isub, 1) := by decide +kernel
theorem dX10_judge_53 : decode cX10_judge 53 = .ok (.iload 4, 2) := by decide +kernel
theorem dX10_judge_55 : decode cX10_judge 55 = .ok (.isub, 1) := by decide +kernel
theorem dX10_judge_56 : decode cX10_judge 56 = .ok (.invokestatic 219, 3) := by decide +kernel
theorem dX10_judge_59 : decode cX10_judge 59 = .ok (.ldiv, 1) := by decide +kernel
theorem dX10_judge_60 : decode cX10_judge 60 = .ok (.ldc2_w 215, 3) := by decide +kernel
theorem dX10_judge_63 : decode cX10_judge 63 = .ok (.lrem, 1) := by decide +kernel
theorem dX10_judge_64 : decode cX10_judge 64 = .ok (.l2i, 1) := by decide +kernel
theorem dX10_judge_65 : decode cX10_judge 65 = .ok (.istore 5, 2) := by decide +kernel
theorem dX10_judge_67 : decode cX10_judge 67 = .ok (.aload_n 0, 1) := by decide +kernel
theorem dX10_judge_68 : decode cX10_judge 68 = .ok (.iload 5, 2) := by decide +kernel
theorem dX10_judge_70 : decode cX10_judge 70 = .ok (.bipush 100, 2) := by decide +kernel
theorem dX10_judge_72 : decode cX10_judge 72 = .ok (.idiv, 1) := by decide +kernel
theorem dX10_judge_73 : decode cX10_judge 73 = .ok (.iload 5, 2) := by decide +kernel
theorem dX10_judge_75 : decode cX10_judge 75 = .ok (.bipush 10, 2) := by decide +kernel
theorem dX10_judge_77 : decode cX10_judge 77 = .ok (.idiv, 1) := by decide +kernel
theorem dX10_judge_78 : decode cX10_judge 78 = .ok (.bipush 10, 2) := by decide +kernel
theorem dX10_judge_80 : decode cX10_judge 80 = .ok (.irem, 1) := by decide +kernel
theorem dX10_judge_81 : decode cX10_judge 81 = .ok (.iload 5, 2) := by decide +kernel
theorem dX10_judge_83 : decode cX10_judge 83 = .ok (.bipush 10, 2) := by decide +kernel
theorem dX10_judge_85 : decode cX10_judge 85 = .ok (.irem, 1) := by decide +kernel
theorem dX10_judge_86 : decode cX10_judge 86 = .ok (.invokevirtual 223, 3) := by decide +kernel
theorem dX10_judge_89 : decode cX10_judge 89 = .ok (.ifCond .ne 6, 3) := by decide +kernel
theorem dX10_judge_92 : decode cX10_judge 92 = .ok (.iload 4, 2) := by decide +kernel
theorem dX10_judge_94 : decode cX10_judge 94 = .ok (.ireturn, 1) := by decide +kernel
theorem dX10_judge_95 : decode cX10_judge 95 = .ok (.iinc 4 1, 3) := by decide +kernel
theorem dX10_judge_98 : decode cX10_judge 98 = .ok (.goto (-55), 3) := by decide +kernel
theorem dX10_judge_101 : decode cX10_judge 101 = .ok (.bipush (-9), 2) := by decide +kernel
theorem dX10_judge_103 : decode cX10_judge 103 = .ok (.ireturn, 1) := by decide +kernel
theorem dX10_see_0 : decode cX10_see 0 = .ok (.aload_n 0, 1) := by decide +kernel
theorem dX10_see_1 : decode cX10_see 1 = .ok (.iload_n 1, 1) := by decide +kernel
theorem dX10_see_2 : decode cX10_see 2 = .ok (.invokevirtual 156, 3) := by decide +kernel
theorem dX10_see_5 : decode cX10_see 5 = .ok (.ifCond .ne 5, 3) := by decide +kernel
theorem dX10_see_8 : decode cX10_see 8 = .ok (.iconst (-1), 1) := by decide +kernel
theorem dX10_see_9 : decode cX10_see 9 = .ok (.ireturn, 1) := by decide +kernel
theorem dX10_see_10 : decode cX10_see 10 = .ok (.iload_n 2, 1) := by decide +kernel
theorem dX10_see_11 : decode cX10_see 11 = .ok (.i2l, 1) := by decide +kernel
theorem dX10_see_12 : decode cX10_see 12 = .ok (.lconst 0, 1) := by decide +kernel
theorem dX10_see_13 : decode cX10_see 13 = .ok (.ldc2_w 227, 3) := by decide +kernel
theorem dX10_see_16 : decode cX10_see 16 = .ok (.invokestatic 61, 3) := by decide +kernel
theorem dX10_see_19 : decode cX10_see 19 = .ok (.ifCond .ne 6, 3) := by decide +kernel
theorem dX10_see_22 : decode cX10_see 22 = .ok (.bipush (-2), 2) := by decide +kernel
theorem dX10_see_24 : decode cX10_see 24 = .ok (.ireturn, 1) := by decide +kernel
theorem dX10_see_25 : decode cX10_see 25 = .ok (.aload_n 0, 1) := by decide +kernel
theorem dX10_see_26 : decode cX10_see 26 = .ok (.getfield 153, 3) := by decide +kernel
theorem dX10_see_29 : decode cX10_see 29 = .ok (.bipush 6, 2) := by decide +kernel
theorem dX10_see_31 : decode cX10_see 31 = .ok (.if_icmp .ne 6, 3) := by decide +kernel
theorem dX10_see_34 : decode cX10_see 34 = .ok (.bipush (-4), 2) := by decide +kernel
theorem dX10_see_36 : decode cX10_see 36 = .ok (.ireturn, 1) := by decide +kernel
theorem dX10_see_37 : decode cX10_see 37 = .ok (.aload_n 0, 1) := by decide +kernel
theorem dX10_see_38 : decode cX10_see 38 = .ok (.getfield 29, 3) := by decide +kernel
theorem dX10_see_41 : decode cX10_see 41 = .ok (.aload_n 0, 1) := by decide +kernel
theorem dX10_see_42 : decode cX10_see 42 = .ok (.getfield 153, 3) := by decide +kernel
theorem dX10_see_45 : decode cX10_see 45 = .ok (.iload_n 1, 1) := by decide +kernel
theorem dX10_see_46 : decode cX10_see 46 = .ok (.iastore, 1) := by decide +kernel
theorem dX10_see_47 : decode cX10_see 47 = .ok (.aload_n 0, 1) := by decide +kernel
theorem dX10_see_48 : decode cX10_see 48 = .ok (.getfield 32, 3) := by decide +kernel
theorem dX10_see_51 : decode cX10_see 51 = .ok (.aload_n 0, 1) := by decide +kernel
theorem dX10_see_52 : decode cX10_see 52 = .ok (.getfield 153, 3) := by decide +kernel
theorem dX10_see_55 : decode cX10_see 55 = .ok (.iload_n 2, 1) := by decide +kernel
theorem dX10_see_56 : decode cX10_see 56 = .ok (.iastore, 1) := by decide +kernel
theorem dX10_see_57 : decode cX10_see 57 = .ok (.aload_n 0, 1) := by decide +kernel
theorem dX10_see_58 : decode cX10_see 58 = .ok (.dup, 1) := by decide +kernel
theorem dX10_see_59 : decode cX10_see 59 = .ok (.getfield 153, 3) := by decide +kernel
theorem dX10_see_62 : decode cX10_see 62 = .ok (.iconst 1, 1) := by decide +kernel
theorem dX10_see_63 : decode cX10_see 63 = .ok (.iadd, 1) := by decide +kernel
theorem dX10_see_64 : decode cX10_see 64 = .ok (.putfield 153, 3) := by decide +kernel
theorem dX10_see_67 : decode cX10_see 67 = .ok (.aload_n 0, 1) := by decide +kernel
theorem dX10_see_68 : decode cX10_see 68 = .ok (.getfield 153, 3) := by decide +kernel
theorem dX10_see_71 : decode cX10_see 71 = .ok (.ireturn, 1) := by decide +kernel
theorem dX10_unsee_0 : decode cX10_unsee 0 = .ok (.aload_n 0, 1) := by decide +kernel
theorem dX10_unsee_1 : decode cX10_unsee 1 = .ok (.getfield 153, 3) := by decide +kernel
theorem dX10_unsee_4 : decode cX10_unsee 4 = .ok (.istore_n 1, 1) := by decide +kernel
theorem dX10_unsee_5 : decode cX10_unsee 5 = .ok (.aload_n 0, 1) := by decide +kernel
theorem dX10_unsee_6 : decode cX10_unsee 6 = .ok (.iconst 0, 1) := by decide +kernel
theorem dX10_unsee_7 : decode cX10_unsee 7 = .ok (.putfield 153, 3) := by decide +kernel
theorem dX10_unsee_10 : decode cX10_unsee 10 = .ok (.iload_n 1, 1) := by decide +kernel
theorem dX10_unsee_11 : decode cX10_unsee 11 = .ok (.ireturn, 1) := by decide +kernel
theorem dX10_which_0 : decode cX10_which 0 = .ok (.aload_n 0, 1) := by decide +kernel
theorem dX10_which_1 : decode cX10_which 1 = .ok (.iload_n 1, 1) := by decide +kernel
theorem dX10_which_2 : decode cX10_which 2 = .ok (.invokevirtual 156, 3) := by decide +kernel
theorem dX10_which_5 : decode cX10_which 5 = .ok (.ifCond .ne 5, 3) := by decide +kernel
theorem dX10_which_8 : decode cX10_which 8 = .ok (.iconst (-1), 1) := by decide +kernel
theorem dX10_which_9 : decode cX10_which 9 = .ok (.ireturn, 1) := by decide +kernel
theorem dX10_which_10 : decode cX10_which 10 = .ok (.iconst 0, 1) := by decide +kernel
theorem dX10_which_11 : decode cX10_which 11 = .ok (.istore_n 2, 1) := by decide +kernel
theorem dX10_which_12 : decode cX10_which 12 = .ok (.iconst 1, 1) := by decide +kernel
theorem dX10_which_13 : decode cX10_which 13 = .ok (.istore_n 3, 1) := by decide +kernel
theorem dX10_which_14 : decode cX10_which 14 = .ok (.iload_n 3, 1) := by decide +kernel
theorem dX10_which_15 : decode cX10_which 15 = .ok (.bipush 10, 2) := by decide +kernel
theorem dX10_which_17 : decode cX10_which 17 = .ok (.if_icmp .ge 123, 3) := by decide +kernel
theorem dX10_which_20 : decode cX10_which 20 = .ok (.aload_n 0, 1) := by decide +kernel
theorem dX10_which_21 : decode cX10_which 21 = .ok (.getfield 13, 3) := by decide +kernel
theorem dX10_which_24 : decode cX10_which 24 = .ok (.aload_n 0, 1) := by decide +kernel
theorem dX10_which_25 : decode cX10_which 25 = .ok (.getfield 16, 3) := by decide +kernel
theorem dX10_which_28 : decode cX10_which 28 = .ok (.invokestatic 104, 3) := by decide +kernel
theorem dX10_which_31 : decode cX10_which 31 = .ok (.aload_n 0, 1) := by decide +kernel
theorem dX10_which_32 : decode cX10_which 32 = .ok (.getfield 16, 3) := by decide +kernel
theorem dX10_which_35 : decode cX10_which 35 = .ok (.iconst 1, 1) := by decide +kernel
theorem dX10_which_36 : decode cX10_which 36 = .ok (.iload_n 1, 1) := by decide +kernel
theorem dX10_which_37 : decode cX10_which 37 = .ok (.iadd, 1) := by decide +kernel
theorem dX10_which_38 : decode cX10_which 38 = .ok (.iload_n 3, 1) := by decide +kernel
theorem dX10_which_39 : decode cX10_which 39 = .ok (.iastore, 1) := by decide +kernel
theorem dX10_which_40 : decode cX10_which 40 = .ok (.aload_n 0, 1) := by decide +kernel
theorem dX10_which_41 : decode cX10_which 41 = .ok (.aload_n 0, 1) := by decide +kernel
theorem dX10_which_42 : decode cX10_which 42 = .ok (.getfield 16, 3) := by decide +kernel
theorem dX10_which_45 : decode cX10_which 45 = .ok (.invokevirtual 119, 3) := by decide +kernel
theorem dX10_which_48 : decode cX10_which 48 = .ok (.iconst 1, 1) := by decide +kernel
theorem dX10_which_49 : decode cX10_which 49 = .ok (.istore 4, 2) := by decide +kernel
theorem dX10_which_51 : decode cX10_which 51 = .ok (.iconst 0, 1) := by decide +kernel
theorem dX10_which_52 : decode cX10_which 52 = .ok (.istore 5, 2) := by decide +kernel
theorem dX10_which_54 : decode cX10_which 54 = .ok (.iload 5, 2) := by decide +kernel
theorem dX10_which_56 : decode cX10_which 56 = .ok (.aload_n 0, 1) := by decide +kernel
theorem dX10_which_57 : decode cX10_which 57 = .ok (.getfield 153, 3) := by decide +kernel
theorem dX10_which_60 : decode cX10_which 60 = .ok (.if_icmp .ge 59, 3) := by decide +kernel
theorem dX10_which_63 : decode cX10_which 63 = .ok (.iload 4, 2) := by decide +kernel
theorem dX10_which_65 : decode cX10_which 65 = .ok (.ifCond .eq 45, 3) := by decide +kernel
theorem dX10_which_68 : decode cX10_which 68 = .ok (.aload_n 0, 1) := by decide +kernel
theorem dX10_which_69 : decode cX10_which 69 = .ok (.aload_n 0, 1) := by decide +kernel
theorem dX10_which_70 : decode cX10_which 70 = .ok (.getfield 29, 3) := by decide +kernel
theorem dX10_which_73 : decode cX10_which 73 = .ok (.iload 5, 2) := by decide +kernel
theorem dX10_which_75 : decode cX10_which 75 = .ok (.iaload, 1) := by decide +kernel
theorem dX10_which_76 : decode cX10_which 76 = .ok (.invokevirtual 156, 3) := by decide +kernel
theorem dX10_which_79 : decode cX10_which 79 = .ok (.ifCond .eq 27, 3) := by decide +kernel
theorem dX10_which_82 : decode cX10_which 82 = .ok (.aload_n 0, 1) := by decide +kernel
theorem dX10_which_83 : decode cX10_which 83 = .ok (.getfield 35, 3) := by decide +kernel
theorem dX10_which_86 : decode cX10_which 86 = .ok (.iconst 3, 1) := by decide +kernel
theorem dX10_which_87 : decode cX10_which 87 = .ok (.aload_n 0, 1) := by decide +kernel
theorem dX10_which_88 : decode cX10_which 88 = .ok (.getfield 29, 3) := by decide +kernel
theorem dX10_which_91 : decode cX10_which 91 = .ok (.iload 5, 2) := by decide +kernel
theorem dX10_which_93 : decode cX10_which 93 = .ok (.iaload, 1) := by decide +kernel
theorem dX10_which_94 : decode cX10_which 94 = .ok (.imul, 1) := by decide +kernel
theorem dX10_which_95 : decode cX10_which 95 = .ok (.iaload, 1) := by decide +kernel
theorem dX10_which_96 : decode cX10_which 96 = .ok (.aload_n 0, 1) := by decide +kernel
theorem dX10_which_97 : decode cX10_which 97 = .ok (.getfield 32, 3) := by decide +kernel
theorem dX10_which_100 : decode cX10_which 100 = .ok (.iload 5, 2) := by decide +kernel
theorem dX10_which_102 : decode cX10_which 102 = .ok (.iaload, 1) := by decide +kernel
theorem dX10_which_103 : decode cX10_which 103 = .ok (.if_icmp .ne 7, 3) := by decide +kernel
theorem dX10_which_106 : decode cX10_which 106 = .ok (.iconst 1, 1) := by decide +kernel
theorem dX10_which_107 : decode cX10_which 107 = .ok (.goto 4, 3) := by decide +kernel
theorem dX10_which_110 : decode cX10_which 110 = .ok (.iconst 0, 1) := by decide +kernel
theorem dX10_which_111 : decode cX10_which 111 = .ok (.istore 4, 2) := by decide +kernel
theorem dX10_which_113 : decode cX10_which 113 = .ok (.iinc 5 1, 3) := by decide +kernel
theorem dX10_which_116 : decode cX10_which 116 = .ok (.goto (-62), 3) := by decide +kernel
theorem dX10_which_119 : decode cX10_which 119 = .ok (.iload_n 2, 1) := by decide +kernel
theorem dX10_which_120 : decode cX10_which 120 = .ok (.iload 4, 2) := by decide +kernel
theorem dX10_which_122 : decode cX10_which 122 = .ok (.ifCond .eq 9, 3) := by decide +kernel
theorem dX10_which_125 : decode cX10_which 125 = .ok (.iconst 1, 1) := by decide +kernel
theorem dX10_which_126 : decode cX10_which 126 = .ok (.iload_n 3, 1) := by decide +kernel
theorem dX10_which_127 : decode cX10_which 127 = .ok (.ishl, 1) := by decide +kernel
theorem dX10_which_128 : decode cX10_which 128 = .ok (.goto 4, 3) := by decide +kernel
theorem dX10_which_131 : decode cX10_which 131 = .ok (.iconst 0, 1) := by decide +kernel
theorem dX10_which_132 : decode cX10_which 132 = .ok (.ior, 1) := by decide +kernel
theorem dX10_which_133 : decode cX10_which 133 = .ok (.istore_n 2, 1) := by decide +kernel
theorem dX10_which_134 : decode cX10_which 134 = .ok (.iinc 3 1, 3) := by decide +kernel
theorem dX10_which_137 : decode cX10_which 137 = .ok (.goto (-123), 3) := by decide +kernel
theorem dX10_which_140 : decode cX10_which 140 = .ok (.iload_n 2, 1) := by decide +kernel
theorem dX10_which_141 : decode cX10_which 141 = .ok (.ireturn, 1) := by decide +kernel
theorem dX10_lastBy_0 : decode cX10_lastBy 0 = .ok (.aload_n 0, 1) := by decide +kernel
theorem dX10_lastBy_1 : decode cX10_lastBy 1 = .ok (.getfield 13, 3) := by decide +kernel
theorem dX10_lastBy_4 : decode cX10_lastBy 4 = .ok (.aload_n 0, 1) := by decide +kernel
theorem dX10_lastBy_5 : decode cX10_lastBy 5 = .ok (.getfield 16, 3) := by decide +kernel
theorem dX10_lastBy_8 : decode cX10_lastBy 8 = .ok (.invokestatic 104, 3) := by decide +kernel
theorem dX10_lastBy_11 : decode cX10_lastBy 11 = .ok (.iconst 0, 1) := by decide +kernel
theorem dX10_lastBy_12 : decode cX10_lastBy 12 = .ok (.istore_n 2, 1) := by decide +kernel
theorem dX10_lastBy_13 : decode cX10_lastBy 13 = .ok (.iload_n 2, 1) := by decide +kernel
theorem dX10_lastBy_14 : decode cX10_lastBy 14 = .ok (.aload_n 0, 1) := by decide +kernel
theorem dX10_lastBy_15 : decode cX10_lastBy 15 = .ok (.getfield 57, 3) := by decide +kernel
theorem dX10_lastBy_18 : decode cX10_lastBy 18 = .ok (.if_icmp .ge 37, 3) := by decide +kernel
theorem dX10_lastBy_21 : decode cX10_lastBy 21 = .ok (.aload_n 0, 1) := by decide +kernel
theorem dX10_lastBy_22 : decode cX10_lastBy 22 = .ok (.getfield 16, 3) := by decide +kernel
theorem dX10_lastBy_25 : decode cX10_lastBy 25 = .ok (.iconst 1, 1) := by decide +kernel
theorem dX10_lastBy_26 : decode cX10_lastBy 26 = .ok (.iload_n 2, 1) := by decide +kernel
theorem dX10_lastBy_27 : decode cX10_lastBy 27 = .ok (.iadd, 1) := by decide +kernel
theorem dX10_lastBy_28 : decode cX10_lastBy 28 = .ok (.iload_n 1, 1) := by decide +kernel
theorem dX10_lastBy_29 : decode cX10_lastBy 29 = .ok (.iload_n 2, 1) := by decide +kernel
theorem dX10_lastBy_30 : decode cX10_lastBy 30 = .ok (.invokestatic 90, 3) := by decide +kernel
theorem dX10_lastBy_33 : decode cX10_lastBy 33 = .ok (.ifCond .eq 14, 3) := by decide +kernel
theorem dX10_lastBy_36 : decode cX10_lastBy 36 = .ok (.aload_n 0, 1) := by decide +kernel
theorem dX10_lastBy_37 : decode cX10_lastBy 37 = .ok (.getfield 13, 3) := by decide +kernel
theorem dX10_lastBy_40 : decode cX10_lastBy 40 = .ok (.iconst 1, 1) := by decide +kernel
theorem dX10_lastBy_41 : decode cX10_lastBy 41 = .ok (.iload_n 2, 1) := by decide +kernel
theorem dX10_lastBy_42 : decode cX10_lastBy 42 = .ok (.iadd, 1) := by decide +kernel
theorem dX10_lastBy_43 : decode cX10_lastBy 43 = .ok (.iaload, 1) := by decide +kernel
theorem dX10_lastBy_44 : decode cX10_lastBy 44 = .ok (.goto 4, 3) := by decide +kernel
theorem dX10_lastBy_47 : decode cX10_lastBy 47 = .ok (.iconst 1, 1) := by decide +kernel
theorem dX10_lastBy_48 : decode cX10_lastBy 48 = .ok (.iastore, 1) := by decide +kernel
theorem dX10_lastBy_49 : decode cX10_lastBy 49 = .ok (.iinc 2 1, 3) := by decide +kernel
theorem dX10_lastBy_52 : decode cX10_lastBy 52 = .ok (.goto (-39), 3) := by decide +kernel
theorem dX10_lastBy_55 : decode cX10_lastBy 55 = .ok (.aload_n 0, 1) := by decide +kernel
theorem dX10_lastBy_56 : decode cX10_lastBy 56 = .ok (.aload_n 0, 1) := by decide +kernel
theorem dX10_lastBy_57 : decode cX10_lastBy 57 = .ok (.getfield 16, 3) := by decide +kernel
theorem dX10_lastBy_60 : decode cX10_lastBy 60 = .ok (.invokevirtual 111, 3) := by decide +kernel
theorem dX10_lastBy_63 : decode cX10_lastBy 63 = .ok (.ireturn, 1) := by decide +kernel
theorem dX10_share_0 : decode cX10_share 0 = .ok (.aload_n 0, 1) := by decide +kernel
theorem dX10_share_1 : decode cX10_share 1 = .ok (.iload_n 1, 1) := by decide +kernel
theorem dX10_share_2 : decode cX10_share 2 = .ok (.invokevirtual 156, 3) := by decide +kernel
theorem dX10_share_5 : decode cX10_share 5 = .ok (.ifCond .ne 5, 3) := by decide +kernel
theorem dX10_share_8 : decode cX10_share 8 = .ok (.iconst (-1), 1) := by decide +kernel
theorem dX10_share_9 : decode cX10_share 9 = .ok (.ireturn, 1) := by decide +kernel
theorem dX10_share_10 : decode cX10_share 10 = .ok (.iconst 0, 1) := by decide +kernel
theorem dX10_share_11 : decode cX10_share 11 = .ok (.istore_n 3, 1) := by decide +kernel
theorem dX10_share_12 : decode cX10_share 12 = .ok (.iload_n 3, 1) := by decide +kernel
theorem dX10_share_13 : decode cX10_share 13 = .ok (.iconst 1, 1) := by decide +kernel
theorem dX10_share_14 : decode cX10_share 14 = .ok (.aload_n 0, 1) := by decide +kernel
theorem dX10_share_15 : decode cX10_share 15 = .ok (.getfield 57, 3) := by decide +kernel
theorem dX10_share_18 : decode cX10_share 18 = .ok (.ishl, 1) := by decide +kernel
theorem dX10_share_19 : decode cX10_share 19 = .ok (.if_icmp .ge 20, 3) := by decide +kernel
theorem dX10_share_22 : decode cX10_share 22 = .ok (.aload_n 0, 1) := by decide +kernel
theorem dX10_share_23 : decode cX10_share 23 = .ok (.getfield 47, 3) := by decide +kernel
theorem dX10_share_26 : decode cX10_share 26 = .ok (.iload_n 3, 1) := by decide +kernel
theorem dX10_share_27 : decode cX10_share 27 = .ok (.aload_n 0, 1) := by decide +kernel
theorem dX10_share_28 : decode cX10_share 28 = .ok (.iload_n 3, 1) := by decide +kernel
theorem dX10_share_29 : decode cX10_share 29 = .ok (.invokevirtual 229, 3) := by decide +kernel
theorem dX10_share_32 : decode cX10_share 32 = .ok (.iastore, 1) := by decide +kernel
theorem dX10_share_33 : decode cX10_share 33 = .ok (.iinc 3 1, 3) := by decide +kernel
theorem dX10_share_36 : decode cX10_share 36 = .ok (.goto (-24), 3) := by decide +kernel
theorem dX10_share_39 : decode cX10_share 39 = .ok (.iconst 0, 1) := by decide +kernel
theorem dX10_share_40 : decode cX10_share 40 = .ok (.istore_n 3, 1) := by decide +kernel
theorem dX10_share_41 : decode cX10_share 41 = .ok (.iconst 0, 1) := by decide +kernel
theorem dX10_share_42 : decode cX10_share 42 = .ok (.istore 4, 2) := by decide +kernel
theorem dX10_share_44 : decode cX10_share 44 = .ok (.iload 4, 2) := by decide +kernel
theorem dX10_share_46 : decode cX10_share 46 = .ok (.iconst 1, 1) := by decide +kernel
theorem dX10_share_47 : decode cX10_share 47 = .ok (.aload_n 0, 1) := by decide +kernel
theorem dX10_share_48 : decode cX10_share 48 = .ok (.getfield 57, 3) := by decide +kernel
theorem dX10_share_51 : decode cX10_share 51 = .ok (.ishl, 1) := by decide +kernel
theorem dX10_share_52 : decode cX10_share 52 = .ok (.if_icmp .ge 66, 3) := by decide +kernel
theorem dX10_share_55 : decode cX10_share 55 = .ok (.iload 4, 2) := by decide +kernel
theorem dX10_share_57 : decode cX10_share 57 = .ok (.iload_n 1, 1) := by decide +kernel
theorem dX10_share_58 : decode cX10_share 58 = .ok (.invokestatic 90, 3) := by decide +kernel
theorem dX10_share_61 : decode cX10_share 61 = .ok (.ifCond .ne 51, 3) := by decide +kernel
theorem dX10_share_64 : decode cX10_share 64 = .ok (.iload 4, 2) := by decide +kernel
theorem dX10_share_66 : decode cX10_share 66 = .ok (.invokestatic 232, 3) := by decide +kernel
theorem dX10_share_69 : decode cX10_share 69 = .ok (.istore 5, 2) := by decide +kernel
theorem dX10_share_71 : decode cX10_share 71 = .ok (.iload_n 3, 1) := by decide +kernel
theorem dX10_share_72 : decode cX10_share 72 = .ok (.iload 5, 2) := by decide +kernel
theorem dX10_share_74 : decode cX10_share 74 = .ok (.invokestatic 235, 3) := by decide +kernel
theorem dX10_share_77 : decode cX10_share 77 = .ok (.aload_n 0, 1) := by decide +kernel
theorem dX10_share_78 : decode cX10_share 78 = .ok (.getfield 57, 3) := by decide +kernel
theorem dX10_share_81 : decode cX10_share 81 = .ok (.iconst 1, 1) := by decide +kernel
theorem dX10_share_82 : decode cX10_share 82 = .ok (.isub, 1) := by decide +kernel
theorem dX10_share_83 : decode cX10_share 83 = .ok (.iload 5, 2) := by decide +kernel
theorem dX10_share_85 : decode cX10_share 85 = .ok (.isub, 1) := by decide +kernel
theorem dX10_share_86 : decode cX10_share 86 = .ok (.invokestatic 235, 3) := by decide +kernel
theorem dX10_share_89 : decode cX10_share 89 = .ok (.imul, 1) := by decide +kernel
theorem dX10_share_90 : decode cX10_share 90 = .ok (.aload_n 0, 1) := by decide +kernel
theorem dX10_share_91 : decode cX10_share 91 = .ok (.getfield 47, 3) := by decide +kernel
theorem dX10_share_94 : decode cX10_share 94 = .ok (.iload 4, 2) := by decide +kernel
theorem dX10_share_96 : decode cX10_share 96 = .ok (.iconst 1, 1) := by decide +kernel
theorem dX10_share_97 : decode cX10_share 97 = .ok (.iload_n 1, 1) := by decide +kernel
theorem dX10_share_98 : decode cX10_share 98 = .ok (.ishl, 1) := by decide +kernel
theorem dX10_share_99 : decode cX10_share 99 = .ok (.ior, 1) := by decide +kernel
theorem dX10_share_100 : decode cX10_share 100 = .ok (.iaload, 1) := by decide +kernel
theorem dX10_share_101 : decode cX10_share 101 = .ok (.aload_n 0, 1) := by decide +kernel
theorem dX10_share_102 : decode cX10_share 102 = .ok (.getfield 47, 3) := by decide +kernel
theorem dX10_share_105 : decode cX10_share 105 = .ok (.iload 4, 2) := by decide +kernel
theorem dX10_share_107 : decode cX10_share 107 = .ok (.iaload, 1) := by decide +kernel
theorem dX10_share_108 : decode cX10_share 108 = .ok (.isub, 1) := by decide +kernel
theorem dX10_share_109 : decode cX10_share 109 = .ok (.imul, 1) := by decide +kernel
theorem dX10_share_110 : decode cX10_share 110 = .ok (.iadd, 1) := by decide +kernel
theorem dX10_share_111 : decode cX10_share 111 = .ok (.istore_n 3, 1) := by decide +kernel
theorem dX10_share_112 : decode cX10_share 112 = .ok (.iinc 4 1, 3) := by decide +kernel
theorem dX10_share_115 : decode cX10_share 115 = .ok (.goto (-71), 3) := by decide +kernel
theorem dX10_share_118 : decode cX10_share 118 = .ok (.iload_n 3, 1) := by decide +kernel
theorem dX10_share_119 : decode cX10_share 119 = .ok (.aload_n 0, 1) := by decide +kernel
theorem dX10_share_120 : decode cX10_share 120 = .ok (.getfield 57, 3) := by decide +kernel
theorem dX10_share_123 : decode cX10_share 123 = .ok (.invokestatic 235, 3) := by decide +kernel
theorem dX10_share_126 : decode cX10_share 126 = .ok (.iload_n 2, 1) := by decide +kernel
theorem dX10_share_127 : decode cX10_share 127 = .ok (.invokestatic 238, 3) := by decide +kernel
theorem dX10_share_130 : decode cX10_share 130 = .ok (.ireturn, 1) := by decide +kernel
theorem dX10_knowing_0 : decode cX10_knowing 0 = .ok (.iconst 1, 1) := by decide +kernel
theorem dX10_knowing_1 : decode cX10_knowing 1 = .ok (.istore_n 2, 1) := by decide +kernel
theorem dX10_knowing_2 : decode cX10_knowing 2 = .ok (.iconst 0, 1) := by decide +kernel
theorem dX10_knowing_3 : decode cX10_knowing 3 = .ok (.istore_n 3, 1) := by decide +kernel
theorem dX10_knowing_4 : decode cX10_knowing 4 = .ok (.iload_n 3, 1) := by decide +kernel
theorem dX10_knowing_5 : decode cX10_knowing 5 = .ok (.aload_n 0, 1) := by decide +kernel
theorem dX10_knowing_6 : decode cX10_knowing 6 = .ok (.getfield 57, 3) := by decide +kernel
theorem dX10_knowing_9 : decode cX10_knowing 9 = .ok (.iconst 1, 1) := by decide +kernel
theorem dX10_knowing_10 : decode cX10_knowing 10 = .ok (.isub, 1) := by decide +kernel
theorem dX10_knowing_11 : decode cX10_knowing 11 = .ok (.if_icmp .ge 57, 3) := by decide +kernel
theorem dX10_knowing_14 : decode cX10_knowing 14 = .ok (.aload_n 0, 1) := by decide +kernel
theorem dX10_knowing_15 : decode cX10_knowing 15 = .ok (.getfield 13, 3) := by decide +kernel
theorem dX10_knowing_18 : decode cX10_knowing 18 = .ok (.bipush 25, 2) := by decide +kernel
theorem dX10_knowing_20 : decode cX10_knowing 20 = .ok (.iload_n 3, 1) := by decide +kernel
theorem dX10_knowing_21 : decode cX10_knowing 21 = .ok (.iadd, 1) := by decide +kernel
theorem dX10_knowing_22 : decode cX10_knowing 22 = .ok (.iaload, 1) := by decide +kernel
theorem dX10_knowing_23 : decode cX10_knowing 23 = .ok (.istore 4, 2) := by decide +kernel
theorem dX10_knowing_25 : decode cX10_knowing 25 = .ok (.iload_n 2, 1) := by decide +kernel
theorem dX10_knowing_26 : decode cX10_knowing 26 = .ok (.iload_n 1, 1) := by decide +kernel
theorem dX10_knowing_27 : decode cX10_knowing 27 = .ok (.iload 4, 2) := by decide +kernel
theorem dX10_knowing_29 : decode cX10_knowing 29 = .ok (.invokestatic 90, 3) := by decide +kernel
theorem dX10_knowing_32 : decode cX10_knowing 32 = .ok (.ifCond .ne 27, 3) := by decide +kernel
theorem dX10_knowing_35 : decode cX10_knowing 35 = .ok (.iload_n 2, 1) := by decide +kernel
theorem dX10_knowing_36 : decode cX10_knowing 36 = .ok (.aload_n 0, 1) := by decide +kernel
theorem dX10_knowing_37 : decode cX10_knowing 37 = .ok (.getfield 13, 3) := by decide +kernel
theorem dX10_knowing_40 : decode cX10_knowing 40 = .ok (.bipush 17, 2) := by decide +kernel
theorem dX10_knowing_42 : decode cX10_knowing 42 = .ok (.iload 4, 2) := by decide +kernel
theorem dX10_knowing_44 : decode cX10_knowing 44 = .ok (.iadd, 1) := by decide +kernel
theorem dX10_knowing_45 : decode cX10_knowing 45 = .ok (.iaload, 1) := by decide +kernel
theorem dX10_knowing_46 : decode cX10_knowing 46 = .ok (.invokestatic 90, 3) := by decide +kernel
theorem dX10_knowing_49 : decode cX10_knowing 49 = .ok (.ifCond .eq 10, 3) := by decide +kernel
theorem dX10_knowing_52 : decode cX10_knowing 52 = .ok (.iconst 1, 1) := by decide +kernel
theorem dX10_knowing_53 : decode cX10_knowing 53 = .ok (.iload 4, 2) := by decide +kernel
theorem dX10_knowing_55 : decode cX10_knowing 55 = .ok (.ishl, 1) := by decide +kernel
theorem dX10_knowing_56 : decode cX10_knowing 56 = .ok (.goto 4, 3) := by decide +kernel
theorem dX10_knowing_59 : decode cX10_knowing 59 = .ok (.iconst 0, 1) := by decide +kernel
theorem dX10_knowing_60 : decode cX10_knowing 60 = .ok (.ior, 1) := by decide +kernel
theorem dX10_knowing_61 : decode cX10_knowing 61 = .ok (.istore_n 2, 1) := by decide +kernel
theorem dX10_knowing_62 : decode cX10_knowing 62 = .ok (.iinc 3 1, 3) := by decide +kernel
theorem dX10_knowing_65 : decode cX10_knowing 65 = .ok (.goto (-61), 3) := by decide +kernel
theorem dX10_knowing_68 : decode cX10_knowing 68 = .ok (.iload_n 2, 1) := by decide +kernel
theorem dX10_knowing_69 : decode cX10_knowing 69 = .ok (.invokestatic 232, 3) := by decide +kernel
theorem dX10_knowing_72 : decode cX10_knowing 72 = .ok (.ireturn, 1) := by decide +kernel
theorem dX10_chance_0 : decode cX10_chance 0 = .ok (.iload_n 1, 1) := by decide +kernel
theorem dX10_chance_1 : decode cX10_chance 1 = .ok (.i2l, 1) := by decide +kernel
theorem dX10_chance_2 : decode cX10_chance 2 = .ok (.lconst 0, 1) := by decide +kernel
theorem dX10_chance_3 : decode cX10_chance 3 = .ok (.ldc2_w 75, 3) := by decide +kernel
theorem dX10_chance_6 : decode cX10_chance 6 = .ok (.invokestatic 61, 3) := by decide +kernel
theorem dX10_chance_9 : decode cX10_chance 9 = .ok (.ifCond .eq 15, 3) := by decide +kernel
theorem dX10_chance_12 : decode cX10_chance 12 = .ok (.iload_n 2, 1) := by decide +kernel
theorem dX10_chance_13 : decode cX10_chance 13 = .ok (.i2l, 1) := by decide +kernel
theorem dX10_chance_14 : decode cX10_chance 14 = .ok (.lconst 0, 1) := by decide +kernel
theorem dX10_chance_15 : decode cX10_chance 15 = .ok (.ldc2_w 242, 3) := by decide +kernel
theorem dX10_chance_18 : decode cX10_chance 18 = .ok (.invokestatic 61, 3) := by decide +kernel
theorem dX10_chance_21 : decode cX10_chance 21 = .ok (.ifCond .ne 6, 3) := by decide +kernel
theorem dX10_chance_24 : decode cX10_chance 24 = .ok (.bipush (-2), 2) := by decide +kernel
theorem dX10_chance_26 : decode cX10_chance 26 = .ok (.ireturn, 1) := by decide +kernel
theorem dX10_chance_27 : decode cX10_chance 27 = .ok (.aload_n 0, 1) := by decide +kernel
theorem dX10_chance_28 : decode cX10_chance 28 = .ok (.getfield 57, 3) := by decide +kernel
theorem dX10_chance_31 : decode cX10_chance 31 = .ok (.iconst 1, 1) := by decide +kernel
theorem dX10_chance_32 : decode cX10_chance 32 = .ok (.isub, 1) := by decide +kernel
theorem dX10_chance_33 : decode cX10_chance 33 = .ok (.istore 4, 2) := by decide +kernel
theorem dX10_chance_35 : decode cX10_chance 35 = .ok (.iconst 0, 1) := by decide +kernel
theorem dX10_chance_36 : decode cX10_chance 36 = .ok (.istore 5, 2) := by decide +kernel
theorem dX10_chance_38 : decode cX10_chance 38 = .ok (.iconst 0, 1) := by decide +kernel
theorem dX10_chance_39 : decode cX10_chance 39 = .ok (.istore 6, 2) := by decide +kernel
theorem dX10_chance_41 : decode cX10_chance 41 = .ok (.iload 6, 2) := by decide +kernel
theorem dX10_chance_43 : decode cX10_chance 43 = .ok (.iconst 1, 1) := by decide +kernel
theorem dX10_chance_44 : decode cX10_chance 44 = .ok (.iload 4, 2) := by decide +kernel
theorem dX10_chance_46 : decode cX10_chance 46 = .ok (.ishl, 1) := by decide +kernel
theorem dX10_chance_47 : decode cX10_chance 47 = .ok (.if_icmp .ge 56, 3) := by decide +kernel
theorem dX10_chance_50 : decode cX10_chance 50 = .ok (.iload 6, 2) := by decide +kernel
theorem dX10_chance_52 : decode cX10_chance 52 = .ok (.invokestatic 232, 3) := by decide +kernel
theorem dX10_chance_55 : decode cX10_chance 55 = .ok (.istore 7, 2) := by decide +kernel
theorem dX10_chance_57 : decode cX10_chance 57 = .ok (.iload 5, 2) := by decide +kernel
theorem dX10_chance_59 : decode cX10_chance 59 = .ok (.aload_n 0, 1) := by decide +kernel
theorem dX10_chance_60 : decode cX10_chance 60 = .ok (.iconst 2, 1) := by decide +kernel
theorem dX10_chance_61 : decode cX10_chance 61 = .ok (.iload 6, 2) := by decide +kernel
theorem dX10_chance_63 : decode cX10_chance 63 = .ok (.imul, 1) := by decide +kernel
theorem dX10_chance_64 : decode cX10_chance 64 = .ok (.invokevirtual 244, 3) := by decide +kernel
theorem dX10_chance_67 : decode cX10_chance 67 = .ok (.iload_n 1, 1) := by decide +kernel
theorem dX10_chance_68 : decode cX10_chance 68 = .ok (.if_icmp .lt 25, 3) := by decide +kernel
theorem dX10_chance_71 : decode cX10_chance 71 = .ok (.iload_n 2, 1) := by decide +kernel
theorem dX10_chance_72 : decode cX10_chance 72 = .ok (.iload 7, 2) := by decide +kernel
theorem dX10_chance_74 : decode cX10_chance 74 = .ok (.invokestatic 247, 3) := by decide +kernel
theorem dX10_chance_77 : decode cX10_chance 77 = .ok (.bipush 10, 2) := by decide +kernel
theorem dX10_chance_79 : decode cX10_chance 79 = .ok (.iload_n 2, 1) := by decide +kernel
theorem dX10_chance_80 : decode cX10_chance 80 = .ok (.isub, 1) := by decide +kernel
theorem dX10_chance_81 : decode cX10_chance 81 = .ok (.iload 4, 2) := by decide +kernel
theorem dX10_chance_83 : decode cX10_chance 83 = .ok (.iload 7, 2) := by decide +kernel
theorem dX10_chance_85 : decode cX10_chance 85 = .ok (.isub, 1) := by decide +kernel
theorem dX10_chance_86 : decode cX10_chance 86 = .ok (.invokestatic 247, 3) := by decide +kernel
theorem dX10_chance_89 : decode cX10_chance 89 = .ok (.imul, 1) := by decide +kernel
theorem dX10_chance_90 : decode cX10_chance 90 = .ok (.goto 4, 3) := by decide +kernel
theorem dX10_chance_93 : decode cX10_chance 93 = .ok (.iconst 0, 1) := by decide +kernel
theorem dX10_chance_94 : decode cX10_chance 94 = .ok (.iadd, 1) := by decide +kernel
theorem dX10_chance_95 : decode cX10_chance 95 = .ok (.istore 5, 2) := by decide +kernel
theorem dX10_chance_97 : decode cX10_chance 97 = .ok (.iinc 6 1, 3) := by decide +kernel
theorem dX10_chance_100 : decode cX10_chance 100 = .ok (.goto (-59), 3) := by decide +kernel
theorem dX10_chance_103 : decode cX10_chance 103 = .ok (.iload 5, 2) := by decide +kernel
theorem dX10_chance_105 : decode cX10_chance 105 = .ok (.bipush 10, 2) := by decide +kernel
theorem dX10_chance_107 : decode cX10_chance 107 = .ok (.iload 4, 2) := by decide +kernel
theorem dX10_chance_109 : decode cX10_chance 109 = .ok (.invokestatic 247, 3) := by decide +kernel
theorem dX10_chance_112 : decode cX10_chance 112 = .ok (.iload_n 3, 1) := by decide +kernel
theorem dX10_chance_113 : decode cX10_chance 113 = .ok (.invokestatic 238, 3) := by decide +kernel
theorem dX10_chance_116 : decode cX10_chance 116 = .ok (.ireturn, 1) := by decide +kernel
theorem dX10_seed_0 : decode cX10_seed 0 = .ok (.aload_n 0, 1) := by decide +kernel
theorem dX10_seed_1 : decode cX10_seed 1 = .ok (.getfield 251, 3) := by decide +kernel
theorem dX10_seed_4 : decode cX10_seed 4 = .ok (.lstore_n 3, 1) := by decide +kernel
theorem dX10_seed_5 : decode cX10_seed 5 = .ok (.aload_n 0, 1) := by decide +kernel
theorem dX10_seed_6 : decode cX10_seed 6 = .ok (.lload_n 1, 1) := by decide +kernel
theorem dX10_seed_7 : decode cX10_seed 7 = .ok (.putfield 251, 3) := by decide +kernel
theorem dX10_seed_10 : decode cX10_seed 10 = .ok (.lload_n 3, 1) := by decide +kernel
theorem dX10_seed_11 : decode cX10_seed 11 = .ok (.lreturn, 1) := by decide +kernel
theorem dX10_drawn_0 : decode cX10_drawn 0 = .ok (.iload_n 1, 1) := by decide +kernel
theorem dX10_drawn_1 : decode cX10_drawn 1 = .ok (.i2l, 1) := by decide +kernel
theorem dX10_drawn_2 : decode cX10_drawn 2 = .ok (.lconst 1, 1) := by decide +kernel
theorem dX10_drawn_3 : decode cX10_drawn 3 = .ok (.ldc2_w 255, 3) := by decide +kernel
theorem dX10_drawn_6 : decode cX10_drawn 6 = .ok (.invokestatic 61, 3) := by decide +kernel
theorem dX10_drawn_9 : decode cX10_drawn 9 = .ok (.ifCond .ne 6, 3) := by decide +kernel
theorem dX10_drawn_12 : decode cX10_drawn 12 = .ok (.bipush (-2), 2) := by decide +kernel
theorem dX10_drawn_14 : decode cX10_drawn 14 = .ok (.ireturn, 1) := by decide +kernel
theorem dX10_drawn_15 : decode cX10_drawn 15 = .ok (.iconst 0, 1) := by decide +kernel
theorem dX10_drawn_16 : decode cX10_drawn 16 = .ok (.istore_n 2, 1) := by decide +kernel
theorem dX10_drawn_17 : decode cX10_drawn 17 = .ok (.iconst 0, 1) := by decide +kernel
theorem dX10_drawn_18 : decode cX10_drawn 18 = .ok (.istore_n 3, 1) := by decide +kernel
theorem dX10_drawn_19 : decode cX10_drawn 19 = .ok (.iload_n 3, 1) := by decide +kernel
theorem dX10_drawn_20 : decode cX10_drawn 20 = .ok (.iload_n 1, 1) := by decide +kernel
theorem dX10_drawn_21 : decode cX10_drawn 21 = .ok (.if_icmp .ge 99, 3) := by decide +kernel
theorem dX10_drawn_24 : decode cX10_drawn 24 = .ok (.aload_n 0, 1) := by decide +kernel
theorem dX10_drawn_25 : decode cX10_drawn 25 = .ok (.aload_n 0, 1) := by decide +kernel
theorem dX10_drawn_26 : decode cX10_drawn 26 = .ok (.getfield 251, 3) := by decide +kernel
theorem dX10_drawn_29 : decode cX10_drawn 29 = .ok (.ldc2_w 257, 3) := by decide +kernel
theorem dX10_drawn_32 : decode cX10_drawn 32 = .ok (.lmul, 1) := by decide +kernel
theorem dX10_drawn_33 : decode cX10_drawn 33 = .ok (.ldc2_w 259, 3) := by decide +kernel
theorem dX10_drawn_36 : decode cX10_drawn 36 = .ok (.ladd, 1) := by decide +kernel
theorem dX10_drawn_37 : decode cX10_drawn 37 = .ok (.putfield 251, 3) := by decide +kernel
theorem dX10_drawn_40 : decode cX10_drawn 40 = .ok (.aload_n 0, 1) := by decide +kernel
theorem dX10_drawn_41 : decode cX10_drawn 41 = .ok (.getfield 251, 3) := by decide +kernel
theorem dX10_drawn_44 : decode cX10_drawn 44 = .ok (.bipush 33, 2) := by decide +kernel
theorem dX10_drawn_46 : decode cX10_drawn 46 = .ok (.lushr, 1) := by decide +kernel
theorem dX10_drawn_47 : decode cX10_drawn 47 = .ok (.l2i, 1) := by decide +kernel
theorem dX10_drawn_48 : decode cX10_drawn 48 = .ok (.istore 4, 2) := by decide +kernel
theorem dX10_drawn_50 : decode cX10_drawn 50 = .ok (.aload_n 0, 1) := by decide +kernel
theorem dX10_drawn_51 : decode cX10_drawn 51 = .ok (.getfield 13, 3) := by decide +kernel
theorem dX10_drawn_54 : decode cX10_drawn 54 = .ok (.aload_n 0, 1) := by decide +kernel
theorem dX10_drawn_55 : decode cX10_drawn 55 = .ok (.getfield 16, 3) := by decide +kernel
theorem dX10_drawn_58 : decode cX10_drawn 58 = .ok (.invokestatic 104, 3) := by decide +kernel
theorem dX10_drawn_61 : decode cX10_drawn 61 = .ok (.iconst 0, 1) := by decide +kernel
theorem dX10_drawn_62 : decode cX10_drawn 62 = .ok (.istore 5, 2) := by decide +kernel
theorem dX10_drawn_64 : decode cX10_drawn 64 = .ok (.iload 5, 2) := by decide +kernel
theorem dX10_drawn_66 : decode cX10_drawn 66 = .ok (.aload_n 0, 1) := by decide +kernel
theorem dX10_drawn_67 : decode cX10_drawn 67 = .ok (.getfield 57, 3) := by decide +kernel
theorem dX10_drawn_70 : decode cX10_drawn 70 = .ok (.if_icmp .ge 33, 3) := by decide +kernel
theorem dX10_drawn_73 : decode cX10_drawn 73 = .ok (.aload_n 0, 1) := by decide +kernel
theorem dX10_drawn_74 : decode cX10_drawn 74 = .ok (.getfield 16, 3) := by decide +kernel
theorem dX10_drawn_77 : decode cX10_drawn 77 = .ok (.iconst 1, 1) := by decide +kernel
theorem dX10_drawn_78 : decode cX10_drawn 78 = .ok (.iload 5, 2) := by decide +kernel
theorem dX10_drawn_80 : decode cX10_drawn 80 = .ok (.iadd, 1) := by decide +kernel
theorem dX10_drawn_81 : decode cX10_drawn 81 = .ok (.iconst 1, 1) := by decide +kernel
theorem dX10_drawn_82 : decode cX10_drawn 82 = .ok (.iload 4, 2) := by decide +kernel
theorem dX10_drawn_84 : decode cX10_drawn 84 = .ok (.bipush 9, 2) := by decide +kernel
theorem dX10_drawn_86 : decode cX10_drawn 86 = .ok (.iload 5, 2) := by decide +kernel
theorem dX10_drawn_88 : decode cX10_drawn 88 = .ok (.invokestatic 247, 3) := by decide +kernel
theorem dX10_drawn_91 : decode cX10_drawn 91 = .ok (.idiv, 1) := by decide +kernel
theorem dX10_drawn_92 : decode cX10_drawn 92 = .ok (.bipush 9, 2) := by decide +kernel
theorem dX10_drawn_94 : decode cX10_drawn 94 = .ok (.irem, 1) := by decide +kernel
theorem dX10_drawn_95 : decode cX10_drawn 95 = .ok (.iadd, 1) := by decide +kernel
theorem dX10_drawn_96 : decode cX10_drawn 96 = .ok (.iastore, 1) := by decide +kernel
theorem dX10_drawn_97 : decode cX10_drawn 97 = .ok (.iinc 5 1, 3) := by decide +kernel
theorem dX10_drawn_100 : decode cX10_drawn 100 = .ok (.goto (-36), 3) := by decide +kernel
theorem dX10_drawn_103 : decode cX10_drawn 103 = .ok (.iload_n 2, 1) := by decide +kernel
theorem dX10_drawn_104 : decode cX10_drawn 104 = .ok (.aload_n 0, 1) := by decide +kernel
theorem dX10_drawn_105 : decode cX10_drawn 105 = .ok (.aload_n 0, 1) := by decide +kernel
theorem dX10_drawn_106 : decode cX10_drawn 106 = .ok (.getfield 16, 3) := by decide +kernel
theorem dX10_drawn_109 : decode cX10_drawn 109 = .ok (.invokevirtual 111, 3) := by decide +kernel
theorem dX10_drawn_112 : decode cX10_drawn 112 = .ok (.iadd, 1) := by decide +kernel
theorem dX10_drawn_113 : decode cX10_drawn 113 = .ok (.istore_n 2, 1) := by decide +kernel
theorem dX10_drawn_114 : decode cX10_drawn 114 = .ok (.iinc 3 1, 3) := by decide +kernel
theorem dX10_drawn_117 : decode cX10_drawn 117 = .ok (.goto (-98), 3) := by decide +kernel
theorem dX10_drawn_120 : decode cX10_drawn 120 = .ok (.iload_n 2, 1) := by decide +kernel
theorem dX10_drawn_121 : decode cX10_drawn 121 = .ok (.ireturn, 1) := by decide +kernel
theorem dX10_keep_0 : decode cX10_keep 0 = .ok (.iload_n 1, 1) := by decide +kernel
theorem dX10_keep_1 : decode cX10_keep 1 = .ok (.i2l, 1) := by decide +kernel
theorem dX10_keep_2 : decode cX10_keep 2 = .ok (.lconst 0, 1) := by decide +kernel
theorem dX10_keep_3 : decode cX10_keep 3 = .ok (.lconst 1, 1) := by decide +kernel
theorem dX10_keep_4 : decode cX10_keep 4 = .ok (.invokestatic 61, 3) := by decide +kernel
theorem dX10_keep_7 : decode cX10_keep 7 = .ok (.ifCond .ne 5, 3) := by decide +kernel
theorem dX10_keep_10 : decode cX10_keep 10 = .ok (.iconst (-1), 1) := by decide +kernel
theorem dX10_keep_11 : decode cX10_keep 11 = .ok (.ireturn, 1) := by decide +kernel
theorem dX10_keep_12 : decode cX10_keep 12 = .ok (.aload_n 0, 1) := by decide +kernel
theorem dX10_keep_13 : decode cX10_keep 13 = .ok (.getfield 25, 3) := by decide +kernel
theorem dX10_keep_16 : decode cX10_keep 16 = .ok (.iload_n 1, 1) := by decide +kernel
theorem dX10_keep_17 : decode cX10_keep 17 = .ok (.iconst 1, 1) := by decide +kernel
theorem dX10_keep_18 : decode cX10_keep 18 = .ok (.bastore, 1) := by decide +kernel
theorem dX10_keep_19 : decode cX10_keep 19 = .ok (.iconst 0, 1) := by decide +kernel
theorem dX10_keep_20 : decode cX10_keep 20 = .ok (.istore_n 2, 1) := by decide +kernel
theorem dX10_keep_21 : decode cX10_keep 21 = .ok (.iload_n 2, 1) := by decide +kernel
theorem dX10_keep_22 : decode cX10_keep 22 = .ok (.bipush 33, 2) := by decide +kernel
theorem dX10_keep_24 : decode cX10_keep 24 = .ok (.if_icmp .ge 26, 3) := by decide +kernel
theorem dX10_keep_27 : decode cX10_keep 27 = .ok (.aload_n 0, 1) := by decide +kernel
theorem dX10_keep_28 : decode cX10_keep 28 = .ok (.getfield 22, 3) := by decide +kernel
theorem dX10_keep_31 : decode cX10_keep 31 = .ok (.bipush 33, 2) := by decide +kernel
theorem dX10_keep_33 : decode cX10_keep 33 = .ok (.iload_n 1, 1) := by decide +kernel
theorem dX10_keep_34 : decode cX10_keep 34 = .ok (.imul, 1) := by decide +kernel
theorem dX10_keep_35 : decode cX10_keep 35 = .ok (.iload_n 2, 1) := by decide +kernel
theorem dX10_keep_36 : decode cX10_keep 36 = .ok (.iadd, 1) := by decide +kernel
theorem dX10_keep_37 : decode cX10_keep 37 = .ok (.aload_n 0, 1) := by decide +kernel
theorem dX10_keep_38 : decode cX10_keep 38 = .ok (.getfield 13, 3) := by decide +kernel
theorem dX10_keep_41 : decode cX10_keep 41 = .ok (.iload_n 2, 1) := by decide +kernel
theorem dX10_keep_42 : decode cX10_keep 42 = .ok (.iaload, 1) := by decide +kernel
theorem dX10_keep_43 : decode cX10_keep 43 = .ok (.iastore, 1) := by decide +kernel
theorem dX10_keep_44 : decode cX10_keep 44 = .ok (.iinc 2 1, 3) := by decide +kernel
theorem dX10_keep_47 : decode cX10_keep 47 = .ok (.goto (-26), 3) := by decide +kernel
theorem dX10_keep_50 : decode cX10_keep 50 = .ok (.aload_n 0, 1) := by decide +kernel
theorem dX10_keep_51 : decode cX10_keep 51 = .ok (.aload_n 0, 1) := by decide +kernel
theorem dX10_keep_52 : decode cX10_keep 52 = .ok (.getfield 13, 3) := by decide +kernel
theorem dX10_keep_55 : decode cX10_keep 55 = .ok (.invokevirtual 111, 3) := by decide +kernel
theorem dX10_keep_58 : decode cX10_keep 58 = .ok (.ireturn, 1) := by decide +kernel
theorem dX10_again_0 : decode cX10_again 0 = .ok (.iload_n 1, 1) := by decide +kernel
theorem dX10_again_1 : decode cX10_again 1 = .ok (.i2l, 1) := by decide +kernel
theorem dX10_again_2 : decode cX10_again 2 = .ok (.lconst 0, 1) := by decide +kernel
theorem dX10_again_3 : decode cX10_again 3 = .ok (.lconst 1, 1) := by decide +kernel
theorem dX10_again_4 : decode cX10_again 4 = .ok (.invokestatic 61, 3) := by decide +kernel
theorem dX10_again_7 : decode cX10_again 7 = .ok (.ifCond .ne 5, 3) := by decide +kernel
theorem dX10_again_10 : decode cX10_again 10 = .ok (.iconst (-1), 1) := by decide +kernel
theorem dX10_again_11 : decode cX10_again 11 = .ok (.ireturn, 1) := by decide +kernel
theorem dX10_again_12 : decode cX10_again 12 = .ok (.aload_n 0, 1) := by decide +kernel
theorem dX10_again_13 : decode cX10_again 13 = .ok (.getfield 25, 3) := by decide +kernel
theorem dX10_again_16 : decode cX10_again 16 = .ok (.iload_n 1, 1) := by decide +kernel
theorem dX10_again_17 : decode cX10_again 17 = .ok (.baload, 1) := by decide +kernel
theorem dX10_again_18 : decode cX10_again 18 = .ok (.ifCond .ne 6, 3) := by decide +kernel
theorem dX10_again_21 : decode cX10_again 21 = .ok (.bipush (-3), 2) := by decide +kernel
theorem dX10_again_23 : decode cX10_again 23 = .ok (.ireturn, 1) := by decide +kernel
theorem dX10_again_24 : decode cX10_again 24 = .ok (.iconst 0, 1) := by decide +kernel
theorem dX10_again_25 : decode cX10_again 25 = .ok (.istore_n 2, 1) := by decide +kernel
theorem dX10_again_26 : decode cX10_again 26 = .ok (.iload_n 2, 1) := by decide +kernel
theorem dX10_again_27 : decode cX10_again 27 = .ok (.bipush 33, 2) := by decide +kernel
theorem dX10_again_29 : decode cX10_again 29 = .ok (.if_icmp .ge 26, 3) := by decide +kernel
theorem dX10_again_32 : decode cX10_again 32 = .ok (.aload_n 0, 1) := by decide +kernel
theorem dX10_again_33 : decode cX10_again 33 = .ok (.getfield 13, 3) := by decide +kernel
theorem dX10_again_36 : decode cX10_again 36 = .ok (.iload_n 2, 1) := by decide +kernel
theorem dX10_again_37 : decode cX10_again 37 = .ok (.aload_n 0, 1) := by decide +kernel
theorem dX10_again_38 : decode cX10_again 38 = .ok (.getfield 22, 3) := by decide +kernel
theorem dX10_again_41 : decode cX10_again 41 = .ok (.bipush 33, 2) := by decide +kernel
theorem dX10_again_43 : decode cX10_again 43 = .ok (.iload_n 1, 1) := by decide +kernel
theorem dX10_again_44 : decode cX10_again 44 = .ok (.imul, 1) := by decide +kernel
theorem dX10_again_45 : decode cX10_again 45 = .ok (.iload_n 2, 1) := by decide +kernel
theorem dX10_again_46 : decode cX10_again 46 = .ok (.iadd, 1) := by decide +kernel
theorem dX10_again_47 : decode cX10_again 47 = .ok (.iaload, 1) := by decide +kernel
theorem dX10_again_48 : decode cX10_again 48 = .ok (.iastore, 1) := by decide +kernel
theorem dX10_again_49 : decode cX10_again 49 = .ok (.iinc 2 1, 3) := by decide +kernel
theorem dX10_again_52 : decode cX10_again 52 = .ok (.goto (-26), 3) := by decide +kernel
theorem dX10_again_55 : decode cX10_again 55 = .ok (.aload_n 0, 1) := by decide +kernel
theorem dX10_again_56 : decode cX10_again 56 = .ok (.iconst 0, 1) := by decide +kernel
theorem dX10_again_57 : decode cX10_again 57 = .ok (.putfield 108, 3) := by decide +kernel
theorem dX10_again_60 : decode cX10_again 60 = .ok (.aload_n 0, 1) := by decide +kernel
theorem dX10_again_61 : decode cX10_again 61 = .ok (.aload_n 0, 1) := by decide +kernel
theorem dX10_again_62 : decode cX10_again 62 = .ok (.getfield 13, 3) := by decide +kernel
theorem dX10_again_65 : decode cX10_again 65 = .ok (.invokevirtual 111, 3) := by decide +kernel
theorem dX10_again_68 : decode cX10_again 68 = .ok (.ireturn, 1) := by decide +kernel
end
section
theorem dL_law_0 : decode cL_law 0 = .ok (.new 7, 3) := by decide +kernel
theorem dL_law_3 : decode cL_law 3 = .ok (.dup, 1) := by decide +kernel
theorem dL_law_4 : decode cL_law 4 = .ok (.invokespecial 9, 3) := by decide +kernel
theorem dL_law_7 : decode cL_law 7 = .ok (.astore_n 1, 1) := by decide +kernel
theorem dL_law_8 : decode cL_law 8 = .ok (.new 10, 3) := by decide +kernel
theorem dL_law_11 : decode cL_law 11 = .ok (.dup, 1) := by decide +kernel
theorem dL_law_12 : decode cL_law 12 = .ok (.invokespecial 12, 3) := by decide +kernel
theorem dL_law_15 : decode cL_law 15 = .ok (.astore_n 2, 1) := by decide +kernel
theorem dL_law_16 : decode cL_law 16 = .ok (.iconst 0, 1) := by decide +kernel
theorem dL_law_17 : decode cL_law 17 = .ok (.istore_n 3, 1) := by decide +kernel
theorem dL_law_18 : decode cL_law 18 = .ok (.iload_n 3, 1) := by decide +kernel
theorem dL_law_19 : decode cL_law 19 = .ok (.aload_n 0, 1) := by decide +kernel
theorem dL_law_20 : decode cL_law 20 = .ok (.arraylength, 1) := by decide +kernel
theorem dL_law_21 : decode cL_law 21 = .ok (.iconst 4, 1) := by decide +kernel
theorem dL_law_22 : decode cL_law 22 = .ok (.isub, 1) := by decide +kernel
theorem dL_law_23 : decode cL_law 23 = .ok (.if_icmp .gt 924, 3) := by decide +kernel
theorem dL_law_26 : decode cL_law 26 = .ok (.aload_n 0, 1) := by decide +kernel
theorem dL_law_27 : decode cL_law 27 = .ok (.iload_n 3, 1) := by decide +kernel
theorem dL_law_28 : decode cL_law 28 = .ok (.iaload, 1) := by decide +kernel
theorem dL_law_29 : decode cL_law 29 = .ok (.bipush 31, 2) := by decide +kernel
theorem dL_law_31 : decode cL_law 31 = .ok (.iand, 1) := by decide +kernel
theorem dL_law_32 : decode cL_law 32 = .ok (.tableswitch 909 0 26 #[124, 147, 160, 173, 186, 209, 242, 265, 298, 321, 354, 377, 390, 433, 446, 480, 513, 546, 609, 642, 655, 678, 727, 786, 840, 863, 886], 124) := by decide +kernel
theorem dL_law_156 : decode cL_law 156 = .ok (.aload_n 1, 1) := by decide +kernel
theorem dL_law_157 : decode cL_law 157 = .ok (.aload_n 0, 1) := by decide +kernel
theorem dL_law_158 : decode cL_law 158 = .ok (.iload_n 3, 1) := by decide +kernel
theorem dL_law_159 : decode cL_law 159 = .ok (.iconst 1, 1) := by decide +kernel
theorem dL_law_160 : decode cL_law 160 = .ok (.iadd, 1) := by decide +kernel
theorem dL_law_161 : decode cL_law 161 = .ok (.iaload, 1) := by decide +kernel
theorem dL_law_162 : decode cL_law 162 = .ok (.invokevirtual 13, 3) := by decide +kernel
theorem dL_law_165 : decode cL_law 165 = .ok (.aload_n 2, 1) := by decide +kernel
theorem dL_law_166 : decode cL_law 166 = .ok (.aload_n 0, 1) := by decide +kernel
theorem dL_law_167 : decode cL_law 167 = .ok (.iload_n 3, 1) := by decide +kernel
theorem dL_law_168 : decode cL_law 168 = .ok (.iconst 1, 1) := by decide +kernel
theorem dL_law_169 : decode cL_law 169 = .ok (.iadd, 1) := by decide +kernel
theorem dL_law_170 : decode cL_law 170 = .ok (.iaload, 1) := by decide +kernel
theorem dL_law_171 : decode cL_law 171 = .ok (.invokevirtual 17, 3) := by decide +kernel
theorem dL_law_174 : decode cL_law 174 = .ok (.if_icmp .eq 767, 3) := by decide +kernel
theorem dL_law_177 : decode cL_law 177 = .ok (.iconst 0, 1) := by decide +kernel
theorem dL_law_178 : decode cL_law 178 = .ok (.ireturn, 1) := by decide +kernel
theorem dL_law_179 : decode cL_law 179 = .ok (.aload_n 1, 1) := by decide +kernel
theorem dL_law_180 : decode cL_law 180 = .ok (.invokevirtual 18, 3) := by decide +kernel
theorem dL_law_183 : decode cL_law 183 = .ok (.aload_n 2, 1) := by decide +kernel
theorem dL_law_184 : decode cL_law 184 = .ok (.invokevirtual 22, 3) := by decide +kernel
theorem dL_law_187 : decode cL_law 187 = .ok (.if_icmp .eq 754, 3) := by decide +kernel
theorem dL_law_190 : decode cL_law 190 = .ok (.iconst 0, 1) := by decide +kernel
theorem dL_law_191 : decode cL_law 191 = .ok (.ireturn, 1) := by decide +kernel
theorem dL_law_192 : decode cL_law 192 = .ok (.aload_n 1, 1) := by decide +kernel
theorem dL_law_193 : decode cL_law 193 = .ok (.invokevirtual 23, 3) := by decide +kernel
theorem dL_law_196 : decode cL_law 196 = .ok (.aload_n 2, 1) := by decide +kernel
theorem dL_law_197 : decode cL_law 197 = .ok (.invokevirtual 26, 3) := by decide +kernel
theorem dL_law_200 : decode cL_law 200 = .ok (.if_icmp .eq 741, 3) := by decide +kernel
theorem dL_law_203 : decode cL_law 203 = .ok (.iconst 0, 1) := by decide +kernel
theorem dL_law_204 : decode cL_law 204 = .ok (.ireturn, 1) := by decide +kernel
theorem dL_law_205 : decode cL_law 205 = .ok (.aload_n 1, 1) := by decide +kernel
theorem dL_law_206 : decode cL_law 206 = .ok (.invokevirtual 27, 3) := by decide +kernel
theorem dL_law_209 : decode cL_law 209 = .ok (.aload_n 2, 1) := by decide +kernel
theorem dL_law_210 : decode cL_law 210 = .ok (.invokevirtual 30, 3) := by decide +kernel
theorem dL_law_213 : decode cL_law 213 = .ok (.if_icmp .eq 728, 3) := by decide +kernel
theorem dL_law_216 : decode cL_law 216 = .ok (.iconst 0, 1) := by decide +kernel
theorem dL_law_217 : decode cL_law 217 = .ok (.ireturn, 1) := by decide +kernel
theorem dL_law_218 : decode cL_law 218 = .ok (.aload_n 1, 1) := by decide +kernel
theorem dL_law_219 : decode cL_law 219 = .ok (.aload_n 0, 1) := by decide +kernel
theorem dL_law_220 : decode cL_law 220 = .ok (.iload_n 3, 1) := by decide +kernel
theorem dL_law_221 : decode cL_law 221 = .ok (.iconst 1, 1) := by decide +kernel
theorem dL_law_222 : decode cL_law 222 = .ok (.iadd, 1) := by decide +kernel
theorem dL_law_223 : decode cL_law 223 = .ok (.iaload, 1) := by decide +kernel
theorem dL_law_224 : decode cL_law 224 = .ok (.invokevirtual 31, 3) := by decide +kernel
theorem dL_law_227 : decode cL_law 227 = .ok (.aload_n 2, 1) := by decide +kernel
theorem dL_law_228 : decode cL_law 228 = .ok (.aload_n 0, 1) := by decide +kernel
theorem dL_law_229 : decode cL_law 229 = .ok (.iload_n 3, 1) := by decide +kernel
theorem dL_law_230 : decode cL_law 230 = .ok (.iconst 1, 1) := by decide +kernel
theorem dL_law_231 : decode cL_law 231 = .ok (.iadd, 1) := by decide +kernel
theorem dL_law_232 : decode cL_law 232 = .ok (.iaload, 1) := by decide +kernel
theorem dL_law_233 : decode cL_law 233 = .ok (.invokevirtual 34, 3) := by decide +kernel
theorem dL_law_236 : decode cL_law 236 = .ok (.if_icmp .eq 705, 3) := by decide +kernel
theorem dL_law_239 : decode cL_law 239 = .ok (.iconst 0, 1) := by decide +kernel
theorem dL_law_240 : decode cL_law 240 = .ok (.ireturn, 1) := by decide +kernel
theorem dL_law_241 : decode cL_law 241 = .ok (.aload_n 1, 1) := by decide +kernel
theorem dL_law_242 : decode cL_law 242 = .ok (.aload_n 0, 1) := by decide +kernel
theorem dL_law_243 : decode cL_law 243 = .ok (.iload_n 3, 1) := by decide +kernel
theorem dL_law_244 : decode cL_law 244 = .ok (.iconst 1, 1) := by decide +kernel
theorem dL_law_245 : decode cL_law 245 = .ok (.iadd, 1) := by decide +kernel
theorem dL_law_246 : decode cL_law 246 = .ok (.iaload, 1) := by decide +kernel
theorem dL_law_247 : decode cL_law 247 = .ok (.aload_n 0, 1) := by decide +kernel
theorem dL_law_248 : decode cL_law 248 = .ok (.iload_n 3, 1) := by decide +kernel
theorem dL_law_249 : decode cL_law 249 = .ok (.iconst 2, 1) := by decide +kernel
theorem dL_law_250 : decode cL_law 250 = .ok (.iadd, 1) := by decide +kernel
theorem dL_law_251 : decode cL_law 251 = .ok (.iaload, 1) := by decide +kernel
theorem dL_law_252 : decode cL_law 252 = .ok (.invokevirtual 35, 3) := by decide +kernel
theorem dL_law_255 : decode cL_law 255 = .ok (.aload_n 2, 1) := by decide +kernel
theorem dL_law_256 : decode cL_law 256 = .ok (.aload_n 0, 1) := by decide +kernel
theorem dL_law_257 : decode cL_law 257 = .ok (.iload_n 3, 1) := by decide +kernel
theorem dL_law_258 : decode cL_law 258 = .ok (.iconst 1, 1) := by decide +kernel
theorem dL_law_259 : decode cL_law 259 = .ok (.iadd, 1) := by decide +kernel
theorem dL_law_260 : decode cL_law 260 = .ok (.iaload, 1) := by decide +kernel
theorem dL_law_261 : decode cL_law 261 = .ok (.aload_n 0, 1) := by decide +kernel
theorem dL_law_262 : decode cL_law 262 = .ok (.iload_n 3, 1) := by decide +kernel
theorem dL_law_263 : decode cL_law 263 = .ok (.iconst 2, 1) := by decide +kernel
theorem dL_law_264 : decode cL_law 264 = .ok (.iadd, 1) := by decide +kernel
theorem dL_law_265 : decode cL_law 265 = .ok (.iaload, 1) := by decide +kernel
theorem dL_law_266 : decode cL_law 266 = .ok (.invokevirtual 39, 3) := by decide +kernel
theorem dL_law_269 : decode cL_law 269 = .ok (.if_icmp .eq 672, 3) := by decide +kernel
theorem dL_law_272 : decode cL_law 272 = .ok (.iconst 0, 1) := by decide +kernel
theorem dL_law_273 : decode cL_law 273 = .ok (.ireturn, 1) := by decide +kernel
theorem dL_law_274 : decode cL_law 274 = .ok (.aload_n 1, 1) := by decide +kernel
theorem dL_law_275 : decode cL_law 275 = .ok (.aload_n 0, 1) := by decide +kernel
theorem dL_law_276 : decode cL_law 276 = .ok (.iload_n 3, 1) := by decide +kernel
theorem dL_law_277 : decode cL_law 277 = .ok (.iconst 1, 1) := by decide +kernel
theorem dL_law_278 : decode cL_law 278 = .ok (.iadd, 1) := by decide +kernel
theorem dL_law_279 : decode cL_law 279 = .ok (.iaload, 1) := by decide +kernel
theorem dL_law_280 : decode cL_law 280 = .ok (.invokevirtual 40, 3) := by decide +kernel
theorem dL_law_283 : decode cL_law 283 = .ok (.aload_n 2, 1) := by decide +kernel
theorem dL_law_284 : decode cL_law 284 = .ok (.aload_n 0, 1) := by decide +kernel
theorem dL_law_285 : decode cL_law 285 = .ok (.iload_n 3, 1) := by decide +kernel
theorem dL_law_286 : decode cL_law 286 = .ok (.iconst 1, 1) := by decide +kernel
theorem dL_law_287 : decode cL_law 287 = .ok (.iadd, 1) := by decide +kernel
theorem dL_law_288 : decode cL_law 288 = .ok (.iaload, 1) := by decide +kernel
theorem dL_law_289 : decode cL_law 289 = .ok (.invokevirtual 43, 3) := by decide +kernel
theorem dL_law_292 : decode cL_law 292 = .ok (.if_icmp .eq 649, 3) := by decide +kernel
theorem dL_law_295 : decode cL_law 295 = .ok (.iconst 0, 1) := by decide +kernel
theorem dL_law_296 : decode cL_law 296 = .ok (.ireturn, 1) := by decide +kernel
theorem dL_law_297 : decode cL_law 297 = .ok (.aload_n 1, 1) := by decide +kernel
theorem dL_law_298 : decode cL_law 298 = .ok (.aload_n 0, 1) := by decide +kernel
theorem dL_law_299 : decode cL_law 299 = .ok (.iload_n 3, 1) := by decide +kernel
theorem dL_law_300 : decode cL_law 300 = .ok (.iconst 1, 1) := by decide +kernel
theorem dL_law_301 : decode cL_law 301 = .ok (.iadd, 1) := by decide +kernel
theorem dL_law_302 : decode cL_law 302 = .ok (.iaload, 1) := by decide +kernel
theorem dL_law_303 : decode cL_law 303 = .ok (.aload_n 0, 1) := by decide +kernel
theorem dL_law_304 : decode cL_law 304 = .ok (.iload_n 3, 1) := by decide +kernel
theorem dL_law_305 : decode cL_law 305 = .ok (.iconst 2, 1) := by decide +kernel
theorem dL_law_306 : decode cL_law 306 = .ok (.iadd, 1) := by decide +kernel
theorem dL_law_307 : decode cL_law 307 = .ok (.iaload, 1) := by decide +kernel
theorem dL_law_308 : decode cL_law 308 = .ok (.invokevirtual 44, 3) := by decide +kernel
theorem dL_law_311 : decode cL_law 311 = .ok (.aload_n 2, 1) := by decide +kernel
theorem dL_law_312 : decode cL_law 312 = .ok (.aload_n 0, 1) := by decide +kernel
theorem dL_law_313 : decode cL_law 313 = .ok (.iload_n 3, 1) := by decide +kernel
theorem dL_law_314 : decode cL_law 314 = .ok (.iconst 1, 1) := by decide +kernel
theorem dL_law_315 : decode cL_law 315 = .ok (.iadd, 1) := by decide +kernel
theorem dL_law_316 : decode cL_law 316 = .ok (.iaload, 1) := by decide +kernel
theorem dL_law_317 : decode cL_law 317 = .ok (.aload_n 0, 1) := by decide +kernel
theorem dL_law_318 : decode cL_law 318 = .ok (.iload_n 3, 1) := by decide +kernel
theorem dL_law_319 : decode cL_law 319 = .ok (.iconst 2, 1) := by decide +kernel
theorem dL_law_320 : decode cL_law 320 = .ok (.iadd, 1) := by decide +kernel
theorem dL_law_321 : decode cL_law 321 = .ok (.iaload, 1) := by decide +kernel
theorem dL_law_322 : decode cL_law 322 = .ok (.invokevirtual 47, 3) := by decide +kernel
theorem dL_law_325 : decode cL_law 325 = .ok (.if_icmp .eq 616, 3) := by decide +kernel
theorem dL_law_328 : decode cL_law 328 = .ok (.iconst 0, 1) := by decide +kernel
theorem dL_law_329 : decode cL_law 329 = .ok (.ireturn, 1) := by decide +kernel
theorem dL_law_330 : decode cL_law 330 = .ok (.aload_n 1, 1) := by decide +kernel
theorem dL_law_331 : decode cL_law 331 = .ok (.aload_n 0, 1) := by decide +kernel
theorem dL_law_332 : decode cL_law 332 = .ok (.iload_n 3, 1) := by decide +kernel
theorem dL_law_333 : decode cL_law 333 = .ok (.iconst 1, 1) := by decide +kernel
theorem dL_law_334 : decode cL_law 334 = .ok (.iadd, 1) := by decide +kernel
theorem dL_law_335 : decode cL_law 335 = .ok (.iaload, 1) := by decide +kernel
theorem dL_law_336 : decode cL_law 336 = .ok (.invokevirtual 48, 3) := by decide +kernel
theorem dL_law_339 : decode cL_law 339 = .ok (.aload_n 2, 1) := by decide +kernel
theorem dL_law_340 : decode cL_law 340 = .ok (.aload_n 0, 1) := by decide +kernel
theorem dL_law_341 : decode cL_law 341 = .ok (.iload_n 3, 1) := by decide +kernel
theorem dL_law_342 : decode cL_law 342 = .ok (.iconst 1, 1) := by decide +kernel
theorem dL_law_343 : decode cL_law 343 = .ok (.iadd, 1) := by decide +kernel
theorem dL_law_344 : decode cL_law 344 = .ok (.iaload, 1) := by decide +kernel
theorem dL_law_345 : decode cL_law 345 = .ok (.invokevirtual 51, 3) := by decide +kernel
theorem dL_law_348 : decode cL_law 348 = .ok (.if_icmp .eq 593, 3) := by decide +kernel
theorem dL_law_351 : decode cL_law 351 = .ok (.iconst 0, 1) := by decide +kernel
theorem dL_law_352 : decode cL_law 352 = .ok (.ireturn, 1) := by decide +kernel
theorem dL_law_353 : decode cL_law 353 = .ok (.aload_n 1, 1) := by decide +kernel
theorem dL_law_354 : decode cL_law 354 = .ok (.aload_n 0, 1) := by decide +kernel
theorem dL_law_355 : decode cL_law 355 = .ok (.iload_n 3, 1) := by decide +kernel
theorem dL_law_356 : decode cL_law 356 = .ok (.iconst 1, 1) := by decide +kernel
theorem dL_law_357 : decode cL_law 357 = .ok (.iadd, 1) := by decide +kernel
theorem dL_law_358 : decode cL_law 358 = .ok (.iaload, 1) := by decide +kernel
theorem dL_law_359 : decode cL_law 359 = .ok (.aload_n 0, 1) := by decide +kernel
theorem dL_law_360 : decode cL_law 360 = .ok (.iload_n 3, 1) := by decide +kernel
theorem dL_law_361 : decode cL_law 361 = .ok (.iconst 2, 1) := by decide +kernel
theorem dL_law_362 : decode cL_law 362 = .ok (.iadd, 1) := by decide +kernel
theorem dL_law_363 : decode cL_law 363 = .ok (.iaload, 1) := by decide +kernel
theorem dL_law_364 : decode cL_law 364 = .ok (.invokevirtual 52, 3) := by decide +kernel
theorem dL_law_367 : decode cL_law 367 = .ok (.aload_n 2, 1) := by decide +kernel
theorem dL_law_368 : decode cL_law 368 = .ok (.aload_n 0, 1) := by decide +kernel
theorem dL_law_369 : decode cL_law 369 = .ok (.iload_n 3, 1) := by decide +kernel
theorem dL_law_370 : decode cL_law 370 = .ok (.iconst 1, 1) := by decide +kernel
theorem dL_law_371 : decode cL_law 371 = .ok (.iadd, 1) := by decide +kernel
theorem dL_law_372 : decode cL_law 372 = .ok (.iaload, 1) := by decide +kernel
theorem dL_law_373 : decode cL_law 373 = .ok (.aload_n 0, 1) := by decide +kernel
theorem dL_law_374 : decode cL_law 374 = .ok (.iload_n 3, 1) := by decide +kernel
theorem dL_law_375 : decode cL_law 375 = .ok (.iconst 2, 1) := by decide +kernel
theorem dL_law_376 : decode cL_law 376 = .ok (.iadd, 1) := by decide +kernel
theorem dL_law_377 : decode cL_law 377 = .ok (.iaload, 1) := by decide +kernel
theorem dL_law_378 : decode cL_law 378 = .ok (.invokevirtual 55, 3) := by decide +kernel
theorem dL_law_381 : decode cL_law 381 = .ok (.if_icmp .eq 560, 3) := by decide +kernel
theorem dL_law_384 : decode cL_law 384 = .ok (.iconst 0, 1) := by decide +kernel
theorem dL_law_385 : decode cL_law 385 = .ok (.ireturn, 1) := by decide +kernel
theorem dL_law_386 : decode cL_law 386 = .ok (.aload_n 1, 1) := by decide +kernel
theorem dL_law_387 : decode cL_law 387 = .ok (.aload_n 0, 1) := by decide +kernel
theorem dL_law_388 : decode cL_law 388 = .ok (.iload_n 3, 1) := by decide +kernel
theorem dL_law_389 : decode cL_law 389 = .ok (.iconst 1, 1) := by decide +kernel
theorem dL_law_390 : decode cL_law 390 = .ok (.iadd, 1) := by decide +kernel
theorem dL_law_391 : decode cL_law 391 = .ok (.iaload, 1) := by decide +kernel
theorem dL_law_392 : decode cL_law 392 = .ok (.invokevirtual 56, 3) := by decide +kernel
theorem dL_law_395 : decode cL_law 395 = .ok (.aload_n 2, 1) := by decide +kernel
theorem dL_law_396 : decode cL_law 396 = .ok (.aload_n 0, 1) := by decide +kernel
theorem dL_law_397 : decode cL_law 397 = .ok (.iload_n 3, 1) := by decide +kernel
theorem dL_law_398 : decode cL_law 398 = .ok (.iconst 1, 1) := by decide +kernel
theorem dL_law_399 : decode cL_law 399 = .ok (.iadd, 1) := by decide +kernel
theorem dL_law_400 : decode cL_law 400 = .ok (.iaload, 1) := by decide +kernel
theorem dL_law_401 : decode cL_law 401 = .ok (.invokevirtual 59, 3) := by decide +kernel
theorem dL_law_404 : decode cL_law 404 = .ok (.if_icmp .eq 537, 3) := by decide +kernel
theorem dL_law_407 : decode cL_law 407 = .ok (.iconst 0, 1) := by decide +kernel
theorem dL_law_408 : decode cL_law 408 = .ok (.ireturn, 1) := by decide +kernel
theorem dL_law_409 : decode cL_law 409 = .ok (.aload_n 1, 1) := by decide +kernel
theorem dL_law_410 : decode cL_law 410 = .ok (.invokevirtual 60, 3) := by decide +kernel
theorem dL_law_413 : decode cL_law 413 = .ok (.aload_n 2, 1) := by decide +kernel
theorem dL_law_414 : decode cL_law 414 = .ok (.invokevirtual 63, 3) := by decide +kernel
theorem dL_law_417 : decode cL_law 417 = .ok (.if_icmp .eq 524, 3) := by decide +kernel
theorem dL_law_420 : decode cL_law 420 = .ok (.iconst 0, 1) := by decide +kernel
theorem dL_law_421 : decode cL_law 421 = .ok (.ireturn, 1) := by decide +kernel
theorem dL_law_422 : decode cL_law 422 = .ok (.aload_n 1, 1) := by decide +kernel
theorem dL_law_423 : decode cL_law 423 = .ok (.aload_n 0, 1) := by decide +kernel
theorem dL_law_424 : decode cL_law 424 = .ok (.iload_n 3, 1) := by decide +kernel
theorem dL_law_425 : decode cL_law 425 = .ok (.iconst 1, 1) := by decide +kernel
theorem dL_law_426 : decode cL_law 426 = .ok (.iadd, 1) := by decide +kernel
theorem dL_law_427 : decode cL_law 427 = .ok (.iaload, 1) := by decide +kernel
theorem dL_law_428 : decode cL_law 428 = .ok (.aload_n 0, 1) := by decide +kernel
theorem dL_law_429 : decode cL_law 429 = .ok (.iload_n 3, 1) := by decide +kernel
theorem dL_law_430 : decode cL_law 430 = .ok (.iconst 2, 1) := by decide +kernel
theorem dL_law_431 : decode cL_law 431 = .ok (.iadd, 1) := by decide +kernel
theorem dL_law_432 : decode cL_law 432 = .ok (.iaload, 1) := by decide +kernel
theorem dL_law_433 : decode cL_law 433 = .ok (.aload_n 0, 1) := by decide +kernel
theorem dL_law_434 : decode cL_law 434 = .ok (.iload_n 3, 1) := by decide +kernel
theorem dL_law_435 : decode cL_law 435 = .ok (.iconst 3, 1) := by decide +kernel
theorem dL_law_436 : decode cL_law 436 = .ok (.iadd, 1) := by decide +kernel
theorem dL_law_437 : decode cL_law 437 = .ok (.iaload, 1) := by decide +kernel
theorem dL_law_438 : decode cL_law 438 = .ok (.invokevirtual 64, 3) := by decide +kernel
theorem dL_law_441 : decode cL_law 441 = .ok (.aload_n 2, 1) := by decide +kernel
theorem dL_law_442 : decode cL_law 442 = .ok (.aload_n 0, 1) := by decide +kernel
theorem dL_law_443 : decode cL_law 443 = .ok (.iload_n 3, 1) := by decide +kernel
theorem dL_law_444 : decode cL_law 444 = .ok (.iconst 1, 1) := by decide +kernel
theorem dL_law_445 : decode cL_law 445 = .ok (.iadd, 1) := by decide +kernel
theorem dL_law_446 : decode cL_law 446 = .ok (.iaload, 1) := by decide +kernel
theorem dL_law_447 : decode cL_law 447 = .ok (.aload_n 0, 1) := by decide +kernel
theorem dL_law_448 : decode cL_law 448 = .ok (.iload_n 3, 1) := by decide +kernel
theorem dL_law_449 : decode cL_law 449 = .ok (.iconst 2, 1) := by decide +kernel
theorem dL_law_450 : decode cL_law 450 = .ok (.iadd, 1) := by decide +kernel
theorem dL_law_451 : decode cL_law 451 = .ok (.iaload, 1) := by decide +kernel
theorem dL_law_452 : decode cL_law 452 = .ok (.aload_n 0, 1) := by decide +kernel
theorem dL_law_453 : decode cL_law 453 = .ok (.iload_n 3, 1) := by decide +kernel
theorem dL_law_454 : decode cL_law 454 = .ok (.iconst 3, 1) := by decide +kernel
theorem dL_law_455 : decode cL_law 455 = .ok (.iadd, 1) := by decide +kernel
theorem dL_law_456 : decode cL_law 456 = .ok (.iaload, 1) := by decide +kernel
theorem dL_law_457 : decode cL_law 457 = .ok (.invokevirtual 68, 3) := by decide +kernel
theorem dL_law_460 : decode cL_law 460 = .ok (.if_icmp .eq 481, 3) := by decide +kernel
theorem dL_law_463 : decode cL_law 463 = .ok (.iconst 0, 1) := by decide +kernel
theorem dL_law_464 : decode cL_law 464 = .ok (.ireturn, 1) := by decide +kernel
theorem dL_law_465 : decode cL_law 465 = .ok (.aload_n 1, 1) := by decide +kernel
theorem dL_law_466 : decode cL_law 466 = .ok (.invokevirtual 69, 3) := by decide +kernel
theorem dL_law_469 : decode cL_law 469 = .ok (.aload_n 2, 1) := by decide +kernel
theorem dL_law_470 : decode cL_law 470 = .ok (.invokevirtual 72, 3) := by decide +kernel
theorem dL_law_473 : decode cL_law 473 = .ok (.if_icmp .eq 468, 3) := by decide +kernel
theorem dL_law_476 : decode cL_law 476 = .ok (.iconst 0, 1) := by decide +kernel
theorem dL_law_477 : decode cL_law 477 = .ok (.ireturn, 1) := by decide +kernel
theorem dL_law_478 : decode cL_law 478 = .ok (.aload_n 1, 1) := by decide +kernel
theorem dL_law_479 : decode cL_law 479 = .ok (.aload_n 0, 1) := by decide +kernel
theorem dL_law_480 : decode cL_law 480 = .ok (.iload_n 3, 1) := by decide +kernel
theorem dL_law_481 : decode cL_law 481 = .ok (.iconst 1, 1) := by decide +kernel
theorem dL_law_482 : decode cL_law 482 = .ok (.iadd, 1) := by decide +kernel
theorem dL_law_483 : decode cL_law 483 = .ok (.iaload, 1) := by decide +kernel
theorem dL_law_484 : decode cL_law 484 = .ok (.aload_n 0, 1) := by decide +kernel
theorem dL_law_485 : decode cL_law 485 = .ok (.iload_n 3, 1) := by decide +kernel
theorem dL_law_486 : decode cL_law 486 = .ok (.iconst 2, 1) := by decide +kernel
theorem dL_law_487 : decode cL_law 487 = .ok (.iadd, 1) := by decide +kernel
theorem dL_law_488 : decode cL_law 488 = .ok (.iaload, 1) := by decide +kernel
theorem dL_law_489 : decode cL_law 489 = .ok (.invokevirtual 73, 3) := by decide +kernel
theorem dL_law_492 : decode cL_law 492 = .ok (.aload_n 2, 1) := by decide +kernel
theorem dL_law_493 : decode cL_law 493 = .ok (.aload_n 0, 1) := by decide +kernel
theorem dL_law_494 : decode cL_law 494 = .ok (.iload_n 3, 1) := by decide +kernel
theorem dL_law_495 : decode cL_law 495 = .ok (.iconst 1, 1) := by decide +kernel
theorem dL_law_496 : decode cL_law 496 = .ok (.iadd, 1) := by decide +kernel
theorem dL_law_497 : decode cL_law 497 = .ok (.iaload, 1) := by decide +kernel
theorem dL_law_498 : decode cL_law 498 = .ok (.aload_n 0, 1) := by decide +kernel
theorem dL_law_499 : decode cL_law 499 = .ok (.iload_n 3, 1) := by decide +kernel
theorem dL_law_500 : decode cL_law 500 = .ok (.iconst 2, 1) := by decide +kernel
theorem dL_law_501 : decode cL_law 501 = .ok (.iadd, 1) := by decide +kernel
theorem dL_law_502 : decode cL_law 502 = .ok (.iaload, 1) := by decide +kernel
theorem dL_law_503 : decode cL_law 503 = .ok (.invokevirtual 77, 3) := by decide +kernel
theorem dL_law_506 : decode cL_law 506 = .ok (.lcmp, 1) := by decide +kernel
theorem dL_law_507 : decode cL_law 507 = .ok (.ifCond .eq 434, 3) := by decide +kernel
theorem dL_law_510 : decode cL_law 510 = .ok (.iconst 0, 1) := by decide +kernel
theorem dL_law_511 : decode cL_law 511 = .ok (.ireturn, 1) := by decide +kernel
theorem dL_law_512 : decode cL_law 512 = .ok (.aload_n 1, 1) := by decide +kernel
theorem dL_law_513 : decode cL_law 513 = .ok (.aload_n 0, 1) := by decide +kernel
theorem dL_law_514 : decode cL_law 514 = .ok (.iload_n 3, 1) := by decide +kernel
theorem dL_law_515 : decode cL_law 515 = .ok (.iconst 1, 1) := by decide +kernel
theorem dL_law_516 : decode cL_law 516 = .ok (.iadd, 1) := by decide +kernel
theorem dL_law_517 : decode cL_law 517 = .ok (.iaload, 1) := by decide +kernel
theorem dL_law_518 : decode cL_law 518 = .ok (.aload_n 0, 1) := by decide +kernel
theorem dL_law_519 : decode cL_law 519 = .ok (.iload_n 3, 1) := by decide +kernel
theorem dL_law_520 : decode cL_law 520 = .ok (.iconst 2, 1) := by decide +kernel
theorem dL_law_521 : decode cL_law 521 = .ok (.iadd, 1) := by decide +kernel
theorem dL_law_522 : decode cL_law 522 = .ok (.iaload, 1) := by decide +kernel
theorem dL_law_523 : decode cL_law 523 = .ok (.invokevirtual 78, 3) := by decide +kernel
theorem dL_law_526 : decode cL_law 526 = .ok (.aload_n 2, 1) := by decide +kernel
theorem dL_law_527 : decode cL_law 527 = .ok (.aload_n 0, 1) := by decide +kernel
theorem dL_law_528 : decode cL_law 528 = .ok (.iload_n 3, 1) := by decide +kernel
theorem dL_law_529 : decode cL_law 529 = .ok (.iconst 1, 1) := by decide +kernel
theorem dL_law_530 : decode cL_law 530 = .ok (.iadd, 1) := by decide +kernel
theorem dL_law_531 : decode cL_law 531 = .ok (.iaload, 1) := by decide +kernel
theorem dL_law_532 : decode cL_law 532 = .ok (.aload_n 0, 1) := by decide +kernel
theorem dL_law_533 : decode cL_law 533 = .ok (.iload_n 3, 1) := by decide +kernel
theorem dL_law_534 : decode cL_law 534 = .ok (.iconst 2, 1) := by decide +kernel
theorem dL_law_535 : decode cL_law 535 = .ok (.iadd, 1) := by decide +kernel
theorem dL_law_536 : decode cL_law 536 = .ok (.iaload, 1) := by decide +kernel
theorem dL_law_537 : decode cL_law 537 = .ok (.invokevirtual 81, 3) := by decide +kernel
theorem dL_law_540 : decode cL_law 540 = .ok (.if_icmp .eq 401, 3) := by decide +kernel
theorem dL_law_543 : decode cL_law 543 = .ok (.iconst 0, 1) := by decide +kernel
theorem dL_law_544 : decode cL_law 544 = .ok (.ireturn, 1) := by decide +kernel
theorem dL_law_545 : decode cL_law 545 = .ok (.aload_n 1, 1) := by decide +kernel
theorem dL_law_546 : decode cL_law 546 = .ok (.aload_n 0, 1) := by decide +kernel
theorem dL_law_547 : decode cL_law 547 = .ok (.iload_n 3, 1) := by decide +kernel
theorem dL_law_548 : decode cL_law 548 = .ok (.iconst 1, 1) := by decide +kernel
theorem dL_law_549 : decode cL_law 549 = .ok (.iadd, 1) := by decide +kernel
theorem dL_law_550 : decode cL_law 550 = .ok (.iaload, 1) := by decide +kernel
theorem dL_law_551 : decode cL_law 551 = .ok (.aload_n 0, 1) := by decide +kernel
theorem dL_law_552 : decode cL_law 552 = .ok (.iload_n 3, 1) := by decide +kernel
theorem dL_law_553 : decode cL_law 553 = .ok (.iconst 2, 1) := by decide +kernel
theorem dL_law_554 : decode cL_law 554 = .ok (.iadd, 1) := by decide +kernel
theorem dL_law_555 : decode cL_law 555 = .ok (.iaload, 1) := by decide +kernel
theorem dL_law_556 : decode cL_law 556 = .ok (.invokevirtual 82, 3) := by decide +kernel
theorem dL_law_559 : decode cL_law 559 = .ok (.aload_n 2, 1) := by decide +kernel
theorem dL_law_560 : decode cL_law 560 = .ok (.aload_n 0, 1) := by decide +kernel
theorem dL_law_561 : decode cL_law 561 = .ok (.iload_n 3, 1) := by decide +kernel
theorem dL_law_562 : decode cL_law 562 = .ok (.iconst 1, 1) := by decide +kernel
theorem dL_law_563 : decode cL_law 563 = .ok (.iadd, 1) := by decide +kernel
theorem dL_law_564 : decode cL_law 564 = .ok (.iaload, 1) := by decide +kernel
theorem dL_law_565 : decode cL_law 565 = .ok (.aload_n 0, 1) := by decide +kernel
theorem dL_law_566 : decode cL_law 566 = .ok (.iload_n 3, 1) := by decide +kernel
theorem dL_law_567 : decode cL_law 567 = .ok (.iconst 2, 1) := by decide +kernel
theorem dL_law_568 : decode cL_law 568 = .ok (.iadd, 1) := by decide +kernel
theorem dL_law_569 : decode cL_law 569 = .ok (.iaload, 1) := by decide +kernel
theorem dL_law_570 : decode cL_law 570 = .ok (.invokevirtual 85, 3) := by decide +kernel
theorem dL_law_573 : decode cL_law 573 = .ok (.if_icmp .eq 368, 3) := by decide +kernel
theorem dL_law_576 : decode cL_law 576 = .ok (.iconst 0, 1) := by decide +kernel
theorem dL_law_577 : decode cL_law 577 = .ok (.ireturn, 1) := by decide +kernel
theorem dL_law_578 : decode cL_law 578 = .ok (.aload_n 1, 1) := by decide +kernel
theorem dL_law_579 : decode cL_law 579 = .ok (.aload_n 0, 1) := by decide +kernel
theorem dL_law_580 : decode cL_law 580 = .ok (.iload_n 3, 1) := by decide +kernel
theorem dL_law_581 : decode cL_law 581 = .ok (.iconst 1, 1) := by decide +kernel
theorem dL_law_582 : decode cL_law 582 = .ok (.iadd, 1) := by decide +kernel
theorem dL_law_583 : decode cL_law 583 = .ok (.iaload, 1) := by decide +kernel
theorem dL_law_584 : decode cL_law 584 = .ok (.aload_n 0, 1) := by decide +kernel
theorem dL_law_585 : decode cL_law 585 = .ok (.iload_n 3, 1) := by decide +kernel
theorem dL_law_586 : decode cL_law 586 = .ok (.iconst 2, 1) := by decide +kernel
theorem dL_law_587 : decode cL_law 587 = .ok (.iadd, 1) := by decide +kernel
theorem dL_law_588 : decode cL_law 588 = .ok (.iaload, 1) := by decide +kernel
theorem dL_law_589 : decode cL_law 589 = .ok (.i2l, 1) := by decide +kernel
theorem dL_law_590 : decode cL_law 590 = .ok (.bipush 32, 2) := by decide +kernel
theorem dL_law_592 : decode cL_law 592 = .ok (.lshl, 1) := by decide +kernel
theorem dL_law_593 : decode cL_law 593 = .ok (.aload_n 0, 1) := by decide +kernel
theorem dL_law_594 : decode cL_law 594 = .ok (.iload_n 3, 1) := by decide +kernel
theorem dL_law_595 : decode cL_law 595 = .ok (.iconst 3, 1) := by decide +kernel
theorem dL_law_596 : decode cL_law 596 = .ok (.iadd, 1) := by decide +kernel
theorem dL_law_597 : decode cL_law 597 = .ok (.iaload, 1) := by decide +kernel
theorem dL_law_598 : decode cL_law 598 = .ok (.i2l, 1) := by decide +kernel
theorem dL_law_599 : decode cL_law 599 = .ok (.ldc2_w 86, 3) := by decide +kernel
theorem dL_law_602 : decode cL_law 602 = .ok (.land, 1) := by decide +kernel
theorem dL_law_603 : decode cL_law 603 = .ok (.lor, 1) := by decide +kernel
theorem dL_law_604 : decode cL_law 604 = .ok (.invokevirtual 88, 3) := by decide +kernel
theorem dL_law_607 : decode cL_law 607 = .ok (.aload_n 2, 1) := by decide +kernel
theorem dL_law_608 : decode cL_law 608 = .ok (.aload_n 0, 1) := by decide +kernel
theorem dL_law_609 : decode cL_law 609 = .ok (.iload_n 3, 1) := by decide +kernel
theorem dL_law_610 : decode cL_law 610 = .ok (.iconst 1, 1) := by decide +kernel
theorem dL_law_611 : decode cL_law 611 = .ok (.iadd, 1) := by decide +kernel
theorem dL_law_612 : decode cL_law 612 = .ok (.iaload, 1) := by decide +kernel
theorem dL_law_613 : decode cL_law 613 = .ok (.aload_n 0, 1) := by decide +kernel
theorem dL_law_614 : decode cL_law 614 = .ok (.iload_n 3, 1) := by decide +kernel
theorem dL_law_615 : decode cL_law 615 = .ok (.iconst 2, 1) := by decide +kernel
theorem dL_law_616 : decode cL_law 616 = .ok (.iadd, 1) := by decide +kernel
theorem dL_law_617 : decode cL_law 617 = .ok (.iaload, 1) := by decide +kernel
theorem dL_law_618 : decode cL_law 618 = .ok (.i2l, 1) := by decide +kernel
theorem dL_law_619 : decode cL_law 619 = .ok (.bipush 32, 2) := by decide +kernel
theorem dL_law_621 : decode cL_law 621 = .ok (.lshl, 1) := by decide +kernel
theorem dL_law_622 : decode cL_law 622 = .ok (.aload_n 0, 1) := by decide +kernel
theorem dL_law_623 : decode cL_law 623 = .ok (.iload_n 3, 1) := by decide +kernel
theorem dL_law_624 : decode cL_law 624 = .ok (.iconst 3, 1) := by decide +kernel
theorem dL_law_625 : decode cL_law 625 = .ok (.iadd, 1) := by decide +kernel
theorem dL_law_626 : decode cL_law 626 = .ok (.iaload, 1) := by decide +kernel
theorem dL_law_627 : decode cL_law 627 = .ok (.i2l, 1) := by decide +kernel
theorem dL_law_628 : decode cL_law 628 = .ok (.ldc2_w 86, 3) := by decide +kernel
theorem dL_law_631 : decode cL_law 631 = .ok (.land, 1) := by decide +kernel
theorem dL_law_632 : decode cL_law 632 = .ok (.lor, 1) := by decide +kernel
theorem dL_law_633 : decode cL_law 633 = .ok (.invokevirtual 92, 3) := by decide +kernel
theorem dL_law_636 : decode cL_law 636 = .ok (.if_icmp .eq 305, 3) := by decide +kernel
theorem dL_law_639 : decode cL_law 639 = .ok (.iconst 0, 1) := by decide +kernel
theorem dL_law_640 : decode cL_law 640 = .ok (.ireturn, 1) := by decide +kernel
theorem dL_law_641 : decode cL_law 641 = .ok (.aload_n 1, 1) := by decide +kernel
theorem dL_law_642 : decode cL_law 642 = .ok (.aload_n 0, 1) := by decide +kernel
theorem dL_law_643 : decode cL_law 643 = .ok (.iload_n 3, 1) := by decide +kernel
theorem dL_law_644 : decode cL_law 644 = .ok (.iconst 1, 1) := by decide +kernel
theorem dL_law_645 : decode cL_law 645 = .ok (.iadd, 1) := by decide +kernel
theorem dL_law_646 : decode cL_law 646 = .ok (.iaload, 1) := by decide +kernel
theorem dL_law_647 : decode cL_law 647 = .ok (.aload_n 0, 1) := by decide +kernel
theorem dL_law_648 : decode cL_law 648 = .ok (.iload_n 3, 1) := by decide +kernel
theorem dL_law_649 : decode cL_law 649 = .ok (.iconst 2, 1) := by decide +kernel
theorem dL_law_650 : decode cL_law 650 = .ok (.iadd, 1) := by decide +kernel
theorem dL_law_651 : decode cL_law 651 = .ok (.iaload, 1) := by decide +kernel
theorem dL_law_652 : decode cL_law 652 = .ok (.invokevirtual 93, 3) := by decide +kernel
theorem dL_law_655 : decode cL_law 655 = .ok (.aload_n 2, 1) := by decide +kernel
theorem dL_law_656 : decode cL_law 656 = .ok (.aload_n 0, 1) := by decide +kernel
theorem dL_law_657 : decode cL_law 657 = .ok (.iload_n 3, 1) := by decide +kernel
theorem dL_law_658 : decode cL_law 658 = .ok (.iconst 1, 1) := by decide +kernel
theorem dL_law_659 : decode cL_law 659 = .ok (.iadd, 1) := by decide +kernel
theorem dL_law_660 : decode cL_law 660 = .ok (.iaload, 1) := by decide +kernel
theorem dL_law_661 : decode cL_law 661 = .ok (.aload_n 0, 1) := by decide +kernel
theorem dL_law_662 : decode cL_law 662 = .ok (.iload_n 3, 1) := by decide +kernel
theorem dL_law_663 : decode cL_law 663 = .ok (.iconst 2, 1) := by decide +kernel
theorem dL_law_664 : decode cL_law 664 = .ok (.iadd, 1) := by decide +kernel
theorem dL_law_665 : decode cL_law 665 = .ok (.iaload, 1) := by decide +kernel
theorem dL_law_666 : decode cL_law 666 = .ok (.invokevirtual 96, 3) := by decide +kernel
theorem dL_law_669 : decode cL_law 669 = .ok (.if_icmp .eq 272, 3) := by decide +kernel
theorem dL_law_672 : decode cL_law 672 = .ok (.iconst 0, 1) := by decide +kernel
theorem dL_law_673 : decode cL_law 673 = .ok (.ireturn, 1) := by decide +kernel
theorem dL_law_674 : decode cL_law 674 = .ok (.aload_n 1, 1) := by decide +kernel
theorem dL_law_675 : decode cL_law 675 = .ok (.invokevirtual 97, 3) := by decide +kernel
theorem dL_law_678 : decode cL_law 678 = .ok (.aload_n 2, 1) := by decide +kernel
theorem dL_law_679 : decode cL_law 679 = .ok (.invokevirtual 100, 3) := by decide +kernel
theorem dL_law_682 : decode cL_law 682 = .ok (.if_icmp .eq 259, 3) := by decide +kernel
theorem dL_law_685 : decode cL_law 685 = .ok (.iconst 0, 1) := by decide +kernel
theorem dL_law_686 : decode cL_law 686 = .ok (.ireturn, 1) := by decide +kernel
theorem dL_law_687 : decode cL_law 687 = .ok (.aload_n 1, 1) := by decide +kernel
theorem dL_law_688 : decode cL_law 688 = .ok (.aload_n 0, 1) := by decide +kernel
theorem dL_law_689 : decode cL_law 689 = .ok (.iload_n 3, 1) := by decide +kernel
theorem dL_law_690 : decode cL_law 690 = .ok (.iconst 1, 1) := by decide +kernel
theorem dL_law_691 : decode cL_law 691 = .ok (.iadd, 1) := by decide +kernel
theorem dL_law_692 : decode cL_law 692 = .ok (.iaload, 1) := by decide +kernel
theorem dL_law_693 : decode cL_law 693 = .ok (.invokevirtual 101, 3) := by decide +kernel
theorem dL_law_696 : decode cL_law 696 = .ok (.aload_n 2, 1) := by decide +kernel
theorem dL_law_697 : decode cL_law 697 = .ok (.aload_n 0, 1) := by decide +kernel
theorem dL_law_698 : decode cL_law 698 = .ok (.iload_n 3, 1) := by decide +kernel
theorem dL_law_699 : decode cL_law 699 = .ok (.iconst 1, 1) := by decide +kernel
theorem dL_law_700 : decode cL_law 700 = .ok (.iadd, 1) := by decide +kernel
theorem dL_law_701 : decode cL_law 701 = .ok (.iaload, 1) := by decide +kernel
theorem dL_law_702 : decode cL_law 702 = .ok (.invokevirtual 104, 3) := by decide +kernel
theorem dL_law_705 : decode cL_law 705 = .ok (.if_icmp .eq 236, 3) := by decide +kernel
theorem dL_law_708 : decode cL_law 708 = .ok (.iconst 0, 1) := by decide +kernel
theorem dL_law_709 : decode cL_law 709 = .ok (.ireturn, 1) := by decide +kernel
theorem dL_law_710 : decode cL_law 710 = .ok (.aload_n 1, 1) := by decide +kernel
theorem dL_law_711 : decode cL_law 711 = .ok (.aload_n 0, 1) := by decide +kernel
theorem dL_law_712 : decode cL_law 712 = .ok (.iload_n 3, 1) := by decide +kernel
theorem dL_law_713 : decode cL_law 713 = .ok (.iconst 1, 1) := by decide +kernel
theorem dL_law_714 : decode cL_law 714 = .ok (.iadd, 1) := by decide +kernel
theorem dL_law_715 : decode cL_law 715 = .ok (.iaload, 1) := by decide +kernel
theorem dL_law_716 : decode cL_law 716 = .ok (.aload_n 0, 1) := by decide +kernel
theorem dL_law_717 : decode cL_law 717 = .ok (.iload_n 3, 1) := by decide +kernel
theorem dL_law_718 : decode cL_law 718 = .ok (.iconst 2, 1) := by decide +kernel
theorem dL_law_719 : decode cL_law 719 = .ok (.iadd, 1) := by decide +kernel
theorem dL_law_720 : decode cL_law 720 = .ok (.iaload, 1) := by decide +kernel
theorem dL_law_721 : decode cL_law 721 = .ok (.ifCond .eq 7, 3) := by decide +kernel
theorem dL_law_724 : decode cL_law 724 = .ok (.iconst 1, 1) := by decide +kernel
theorem dL_law_725 : decode cL_law 725 = .ok (.goto 4, 3) := by decide +kernel
theorem dL_law_728 : decode cL_law 728 = .ok (.iconst 0, 1) := by decide +kernel
theorem dL_law_729 : decode cL_law 729 = .ok (.invokevirtual 105, 3) := by decide +kernel
theorem dL_law_732 : decode cL_law 732 = .ok (.aload_n 2, 1) := by decide +kernel
theorem dL_law_733 : decode cL_law 733 = .ok (.aload_n 0, 1) := by decide +kernel
theorem dL_law_734 : decode cL_law 734 = .ok (.iload_n 3, 1) := by decide +kernel
theorem dL_law_735 : decode cL_law 735 = .ok (.iconst 1, 1) := by decide +kernel
theorem dL_law_736 : decode cL_law 736 = .ok (.iadd, 1) := by decide +kernel
theorem dL_law_737 : decode cL_law 737 = .ok (.iaload, 1) := by decide +kernel
theorem dL_law_738 : decode cL_law 738 = .ok (.aload_n 0, 1) := by decide +kernel
theorem dL_law_739 : decode cL_law 739 = .ok (.iload_n 3, 1) := by decide +kernel
theorem dL_law_740 : decode cL_law 740 = .ok (.iconst 2, 1) := by decide +kernel
theorem dL_law_741 : decode cL_law 741 = .ok (.iadd, 1) := by decide +kernel
theorem dL_law_742 : decode cL_law 742 = .ok (.iaload, 1) := by decide +kernel
theorem dL_law_743 : decode cL_law 743 = .ok (.ifCond .eq 7, 3) := by decide +kernel
theorem dL_law_746 : decode cL_law 746 = .ok (.iconst 1, 1) := by decide +kernel
theorem dL_law_747 : decode cL_law 747 = .ok (.goto 4, 3) := by decide +kernel
theorem dL_law_750 : decode cL_law 750 = .ok (.iconst 0, 1) := by decide +kernel
theorem dL_law_751 : decode cL_law 751 = .ok (.invokevirtual 109, 3) := by decide +kernel
theorem dL_law_754 : decode cL_law 754 = .ok (.if_icmp .eq 187, 3) := by decide +kernel
theorem dL_law_757 : decode cL_law 757 = .ok (.iconst 0, 1) := by decide +kernel
theorem dL_law_758 : decode cL_law 758 = .ok (.ireturn, 1) := by decide +kernel
theorem dL_law_759 : decode cL_law 759 = .ok (.aload_n 1, 1) := by decide +kernel
theorem dL_law_760 : decode cL_law 760 = .ok (.aload_n 0, 1) := by decide +kernel
theorem dL_law_761 : decode cL_law 761 = .ok (.iload_n 3, 1) := by decide +kernel
theorem dL_law_762 : decode cL_law 762 = .ok (.iconst 1, 1) := by decide +kernel
theorem dL_law_763 : decode cL_law 763 = .ok (.iadd, 1) := by decide +kernel
theorem dL_law_764 : decode cL_law 764 = .ok (.iaload, 1) := by decide +kernel
theorem dL_law_765 : decode cL_law 765 = .ok (.aload_n 0, 1) := by decide +kernel
theorem dL_law_766 : decode cL_law 766 = .ok (.iload_n 3, 1) := by decide +kernel
theorem dL_law_767 : decode cL_law 767 = .ok (.iconst 2, 1) := by decide +kernel
theorem dL_law_768 : decode cL_law 768 = .ok (.iadd, 1) := by decide +kernel
theorem dL_law_769 : decode cL_law 769 = .ok (.iaload, 1) := by decide +kernel
theorem dL_law_770 : decode cL_law 770 = .ok (.aload_n 0, 1) := by decide +kernel
theorem dL_law_771 : decode cL_law 771 = .ok (.iload_n 3, 1) := by decide +kernel
theorem dL_law_772 : decode cL_law 772 = .ok (.iconst 3, 1) := by decide +kernel
theorem dL_law_773 : decode cL_law 773 = .ok (.iadd, 1) := by decide +kernel
theorem dL_law_774 : decode cL_law 774 = .ok (.iaload, 1) := by decide +kernel
theorem dL_law_775 : decode cL_law 775 = .ok (.ifCond .eq 7, 3) := by decide +kernel
theorem dL_law_778 : decode cL_law 778 = .ok (.iconst 1, 1) := by decide +kernel
theorem dL_law_779 : decode cL_law 779 = .ok (.goto 4, 3) := by decide +kernel
theorem dL_law_782 : decode cL_law 782 = .ok (.iconst 0, 1) := by decide +kernel
theorem dL_law_783 : decode cL_law 783 = .ok (.invokevirtual 110, 3) := by decide +kernel
theorem dL_law_786 : decode cL_law 786 = .ok (.aload_n 2, 1) := by decide +kernel
theorem dL_law_787 : decode cL_law 787 = .ok (.aload_n 0, 1) := by decide +kernel
theorem dL_law_788 : decode cL_law 788 = .ok (.iload_n 3, 1) := by decide +kernel
theorem dL_law_789 : decode cL_law 789 = .ok (.iconst 1, 1) := by decide +kernel
theorem dL_law_790 : decode cL_law 790 = .ok (.iadd, 1) := by decide +kernel
theorem dL_law_791 : decode cL_law 791 = .ok (.iaload, 1) := by decide +kernel
theorem dL_law_792 : decode cL_law 792 = .ok (.aload_n 0, 1) := by decide +kernel
theorem dL_law_793 : decode cL_law 793 = .ok (.iload_n 3, 1) := by decide +kernel
theorem dL_law_794 : decode cL_law 794 = .ok (.iconst 2, 1) := by decide +kernel
theorem dL_law_795 : decode cL_law 795 = .ok (.iadd, 1) := by decide +kernel
theorem dL_law_796 : decode cL_law 796 = .ok (.iaload, 1) := by decide +kernel
theorem dL_law_797 : decode cL_law 797 = .ok (.aload_n 0, 1) := by decide +kernel
theorem dL_law_798 : decode cL_law 798 = .ok (.iload_n 3, 1) := by decide +kernel
theorem dL_law_799 : decode cL_law 799 = .ok (.iconst 3, 1) := by decide +kernel
theorem dL_law_800 : decode cL_law 800 = .ok (.iadd, 1) := by decide +kernel
theorem dL_law_801 : decode cL_law 801 = .ok (.iaload, 1) := by decide +kernel
theorem dL_law_802 : decode cL_law 802 = .ok (.ifCond .eq 7, 3) := by decide +kernel
theorem dL_law_805 : decode cL_law 805 = .ok (.iconst 1, 1) := by decide +kernel
theorem dL_law_806 : decode cL_law 806 = .ok (.goto 4, 3) := by decide +kernel
theorem dL_law_809 : decode cL_law 809 = .ok (.iconst 0, 1) := by decide +kernel
theorem dL_law_810 : decode cL_law 810 = .ok (.invokevirtual 114, 3) := by decide +kernel
theorem dL_law_813 : decode cL_law 813 = .ok (.if_icmp .eq 128, 3) := by decide +kernel
theorem dL_law_816 : decode cL_law 816 = .ok (.iconst 0, 1) := by decide +kernel
theorem dL_law_817 : decode cL_law 817 = .ok (.ireturn, 1) := by decide +kernel
theorem dL_law_818 : decode cL_law 818 = .ok (.aload_n 1, 1) := by decide +kernel
theorem dL_law_819 : decode cL_law 819 = .ok (.aload_n 0, 1) := by decide +kernel
theorem dL_law_820 : decode cL_law 820 = .ok (.iload_n 3, 1) := by decide +kernel
theorem dL_law_821 : decode cL_law 821 = .ok (.iconst 1, 1) := by decide +kernel
theorem dL_law_822 : decode cL_law 822 = .ok (.iadd, 1) := by decide +kernel
theorem dL_law_823 : decode cL_law 823 = .ok (.iaload, 1) := by decide +kernel
theorem dL_law_824 : decode cL_law 824 = .ok (.i2l, 1) := by decide +kernel
theorem dL_law_825 : decode cL_law 825 = .ok (.bipush 32, 2) := by decide +kernel
theorem dL_law_827 : decode cL_law 827 = .ok (.lshl, 1) := by decide +kernel
theorem dL_law_828 : decode cL_law 828 = .ok (.aload_n 0, 1) := by decide +kernel
theorem dL_law_829 : decode cL_law 829 = .ok (.iload_n 3, 1) := by decide +kernel
theorem dL_law_830 : decode cL_law 830 = .ok (.iconst 2, 1) := by decide +kernel
theorem dL_law_831 : decode cL_law 831 = .ok (.iadd, 1) := by decide +kernel
theorem dL_law_832 : decode cL_law 832 = .ok (.iaload, 1) := by decide +kernel
theorem dL_law_833 : decode cL_law 833 = .ok (.i2l, 1) := by decide +kernel
theorem dL_law_834 : decode cL_law 834 = .ok (.ldc2_w 86, 3) := by decide +kernel
theorem dL_law_837 : decode cL_law 837 = .ok (.land, 1) := by decide +kernel
theorem dL_law_838 : decode cL_law 838 = .ok (.lor, 1) := by decide +kernel
theorem dL_law_839 : decode cL_law 839 = .ok (.invokevirtual 115, 3) := by decide +kernel
theorem dL_law_842 : decode cL_law 842 = .ok (.aload_n 2, 1) := by decide +kernel
theorem dL_law_843 : decode cL_law 843 = .ok (.aload_n 0, 1) := by decide +kernel
theorem dL_law_844 : decode cL_law 844 = .ok (.iload_n 3, 1) := by decide +kernel
theorem dL_law_845 : decode cL_law 845 = .ok (.iconst 1, 1) := by decide +kernel
theorem dL_law_846 : decode cL_law 846 = .ok (.iadd, 1) := by decide +kernel
theorem dL_law_847 : decode cL_law 847 = .ok (.iaload, 1) := by decide +kernel
theorem dL_law_848 : decode cL_law 848 = .ok (.i2l, 1) := by decide +kernel
theorem dL_law_849 : decode cL_law 849 = .ok (.bipush 32, 2) := by decide +kernel
theorem dL_law_851 : decode cL_law 851 = .ok (.lshl, 1) := by decide +kernel
theorem dL_law_852 : decode cL_law 852 = .ok (.aload_n 0, 1) := by decide +kernel
theorem dL_law_853 : decode cL_law 853 = .ok (.iload_n 3, 1) := by decide +kernel
theorem dL_law_854 : decode cL_law 854 = .ok (.iconst 2, 1) := by decide +kernel
theorem dL_law_855 : decode cL_law 855 = .ok (.iadd, 1) := by decide +kernel
theorem dL_law_856 : decode cL_law 856 = .ok (.iaload, 1) := by decide +kernel
theorem dL_law_857 : decode cL_law 857 = .ok (.i2l, 1) := by decide +kernel
theorem dL_law_858 : decode cL_law 858 = .ok (.ldc2_w 86, 3) := by decide +kernel
theorem dL_law_861 : decode cL_law 861 = .ok (.land, 1) := by decide +kernel
theorem dL_law_862 : decode cL_law 862 = .ok (.lor, 1) := by decide +kernel
theorem dL_law_863 : decode cL_law 863 = .ok (.invokevirtual 119, 3) := by decide +kernel
theorem dL_law_866 : decode cL_law 866 = .ok (.lcmp, 1) := by decide +kernel
theorem dL_law_867 : decode cL_law 867 = .ok (.ifCond .eq 74, 3) := by decide +kernel
theorem dL_law_870 : decode cL_law 870 = .ok (.iconst 0, 1) := by decide +kernel
theorem dL_law_871 : decode cL_law 871 = .ok (.ireturn, 1) := by decide +kernel
theorem dL_law_872 : decode cL_law 872 = .ok (.aload_n 1, 1) := by decide +kernel
theorem dL_law_873 : decode cL_law 873 = .ok (.aload_n 0, 1) := by decide +kernel
theorem dL_law_874 : decode cL_law 874 = .ok (.iload_n 3, 1) := by decide +kernel
theorem dL_law_875 : decode cL_law 875 = .ok (.iconst 1, 1) := by decide +kernel
theorem dL_law_876 : decode cL_law 876 = .ok (.iadd, 1) := by decide +kernel
theorem dL_law_877 : decode cL_law 877 = .ok (.iaload, 1) := by decide +kernel
theorem dL_law_878 : decode cL_law 878 = .ok (.invokevirtual 120, 3) := by decide +kernel
theorem dL_law_881 : decode cL_law 881 = .ok (.aload_n 2, 1) := by decide +kernel
theorem dL_law_882 : decode cL_law 882 = .ok (.aload_n 0, 1) := by decide +kernel
theorem dL_law_883 : decode cL_law 883 = .ok (.iload_n 3, 1) := by decide +kernel
theorem dL_law_884 : decode cL_law 884 = .ok (.iconst 1, 1) := by decide +kernel
theorem dL_law_885 : decode cL_law 885 = .ok (.iadd, 1) := by decide +kernel
theorem dL_law_886 : decode cL_law 886 = .ok (.iaload, 1) := by decide +kernel
theorem dL_law_887 : decode cL_law 887 = .ok (.invokevirtual 123, 3) := by decide +kernel
theorem dL_law_890 : decode cL_law 890 = .ok (.if_icmp .eq 51, 3) := by decide +kernel
theorem dL_law_893 : decode cL_law 893 = .ok (.iconst 0, 1) := by decide +kernel
theorem dL_law_894 : decode cL_law 894 = .ok (.ireturn, 1) := by decide +kernel
theorem dL_law_895 : decode cL_law 895 = .ok (.aload_n 1, 1) := by decide +kernel
theorem dL_law_896 : decode cL_law 896 = .ok (.aload_n 0, 1) := by decide +kernel
theorem dL_law_897 : decode cL_law 897 = .ok (.iload_n 3, 1) := by decide +kernel
theorem dL_law_898 : decode cL_law 898 = .ok (.iconst 1, 1) := by decide +kernel
theorem dL_law_899 : decode cL_law 899 = .ok (.iadd, 1) := by decide +kernel
theorem dL_law_900 : decode cL_law 900 = .ok (.iaload, 1) := by decide +kernel
theorem dL_law_901 : decode cL_law 901 = .ok (.invokevirtual 124, 3) := by decide +kernel
theorem dL_law_904 : decode cL_law 904 = .ok (.aload_n 2, 1) := by decide +kernel
theorem dL_law_905 : decode cL_law 905 = .ok (.aload_n 0, 1) := by decide +kernel
theorem dL_law_906 : decode cL_law 906 = .ok (.iload_n 3, 1) := by decide +kernel
theorem dL_law_907 : decode cL_law 907 = .ok (.iconst 1, 1) := by decide +kernel
theorem dL_law_908 : decode cL_law 908 = .ok (.iadd, 1) := by decide +kernel
theorem dL_law_909 : decode cL_law 909 = .ok (.iaload, 1) := by decide +kernel
theorem dL_law_910 : decode cL_law 910 = .ok (.invokevirtual 127, 3) := by decide +kernel
theorem dL_law_913 : decode cL_law 913 = .ok (.if_icmp .eq 28, 3) := by decide +kernel
theorem dL_law_916 : decode cL_law 916 = .ok (.iconst 0, 1) := by decide +kernel
theorem dL_law_917 : decode cL_law 917 = .ok (.ireturn, 1) := by decide +kernel
theorem dL_law_918 : decode cL_law 918 = .ok (.aload_n 1, 1) := by decide +kernel
theorem dL_law_919 : decode cL_law 919 = .ok (.aload_n 0, 1) := by decide +kernel
theorem dL_law_920 : decode cL_law 920 = .ok (.iload_n 3, 1) := by decide +kernel
theorem dL_law_921 : decode cL_law 921 = .ok (.iconst 1, 1) := by decide +kernel
theorem dL_law_922 : decode cL_law 922 = .ok (.iadd, 1) := by decide +kernel
theorem dL_law_923 : decode cL_law 923 = .ok (.iaload, 1) := by decide +kernel
theorem dL_law_924 : decode cL_law 924 = .ok (.invokevirtual 128, 3) := by decide +kernel
theorem dL_law_927 : decode cL_law 927 = .ok (.aload_n 2, 1) := by decide +kernel
theorem dL_law_928 : decode cL_law 928 = .ok (.aload_n 0, 1) := by decide +kernel
theorem dL_law_929 : decode cL_law 929 = .ok (.iload_n 3, 1) := by decide +kernel
theorem dL_law_930 : decode cL_law 930 = .ok (.iconst 1, 1) := by decide +kernel
theorem dL_law_931 : decode cL_law 931 = .ok (.iadd, 1) := by decide +kernel
theorem dL_law_932 : decode cL_law 932 = .ok (.iaload, 1) := by decide +kernel
theorem dL_law_933 : decode cL_law 933 = .ok (.invokevirtual 131, 3) := by decide +kernel
theorem dL_law_936 : decode cL_law 936 = .ok (.if_icmp .eq 5, 3) := by decide +kernel
theorem dL_law_939 : decode cL_law 939 = .ok (.iconst 0, 1) := by decide +kernel
theorem dL_law_940 : decode cL_law 940 = .ok (.ireturn, 1) := by decide +kernel
theorem dL_law_941 : decode cL_law 941 = .ok (.iinc 3 4, 3) := by decide +kernel
theorem dL_law_944 : decode cL_law 944 = .ok (.goto (-926), 3) := by decide +kernel
theorem dL_law_947 : decode cL_law 947 = .ok (.iconst 1, 1) := by decide +kernel
theorem dL_law_948 : decode cL_law 948 = .ok (.ireturn, 1) := by decide +kernel
end
section
/-! THE ABSTRACT MACHINE. A heap of labels: label 0 is the script, label 1 the table of factorials (both are only read), the others are the cells that the law makes. Numbers are Int. -/
/-- values: an int, a long, a reference to a label (or null) -/
abbrev zV : Type := Int ⊕ (Int ⊕ Option Nat)
abbrev vI (x : Int) : zV := .inl x
abbrev vJ (x : Int) : zV := .inr (.inl x)
abbrev vR (a : Nat) : zV := .inr (.inr (some a))
abbrev vN : zV := .inr (.inr none)
/-- cells: an object (its class's number, its fields); an array of numbers (0 int, 1 long, else boolean; length; contents); an array of references -/
abbrev zE : Type := (Nat × List zV) ⊕ ((Nat × Nat × (Int → Int)) ⊕ (Nat × (Int → Option Nat)))
abbrev zO (ci : Nat) (fs : List zV) : zE := .inl (ci, fs)
abbrev zI (n : Nat) (f : Int → Int) : zE := .inr (.inl (0, n, f))
abbrev zJ (n : Nat) (f : Int → Int) : zE := .inr (.inl (1, n, f))
abbrev zB (n : Nat) (f : Int → Int) : zE := .inr (.inl (2, n, f))
abbrev zT (n : Nat) (f : Int → Option Nat) : zE := .inr (.inr (n, f))
/-- a heap: its cells by label, and the next label -/
abbrev zH : Type := (Nat → Option zE) × Nat
def zup (h : zH) (a : Nat) (c : zE) : zH := (fun q => if q = a then some c else h.1 q, h.2)
def znew (h : zH) (c : zE) : zH := (fun q => if q = h.2 then some c else h.1 q, h.2 + 1)
theorem zup_same (h : zH) (a : Nat) (c : zE) : (zup h a c).1 a = some c := by simp [zup]
theorem zup_ne (h : zH) {a b : Nat} (c : zE) (hb : b ≠ a) : (zup h a c).1 b = h.1 b := by simp [zup, hb]
theorem zup_2 (h : zH) (a : Nat) (c : zE) : (zup h a c).2 = h.2 := rfl
def zv (r : Nat → Nat) : zV → Value
  | .inl x => .int (Int32.ofInt x)
  | .inr (.inl x) => .long (Int64.ofInt x)
  | .inr (.inr (some a)) => .ref (r a)
  | .inr (.inr none) => .null
def zty : Nat → FieldType
  | 0 => .int
  | 1 => .long
  | _ => .boolean
def zpf (k : Nat) (f : Int → Int) : (Nat → Int32) ⊕ (Nat → Int64) ⊕ (Nat → UInt32) ⊕ (Nat → UInt64) ⊕ (Nat → Option Nat) := match k with
  | 1 => .inr (.inl (fun j => Int64.ofInt (f j)))
  | _ => .inl (fun j => Int32.ofInt (f j))
def ztel : String := "LateLetters$Telling"
def zat (U : State) (D : va_G) (r : Nat → Nat) (a : Nat) (c : zE) (H : Heap) : Prop := match c with
  | .inl (ci, fs) => va_at D vwCl (a, .inr (ci, fs.map (zv r))) H
  | .inr (.inl (k, n, f)) => ∃ cA : ClassId, ArrOfT U cA (zty k) ∧ va_RA U cA (zty k) ∧ H[a]? = some (vp_cell cA (n, zpf k f))
  | .inr (.inr (n, f)) => ∃ cA : ClassId, ArrOfT U cA (.object ztel) ∧ va_RA U cA (.object ztel) ∧ H[a]? = some (vp_cell cA (n, .inr (.inr (.inr (.inr (fun j => (f j).map r))))))
def zRel (U : State) (D : va_G) (r : Nat → Nat) (h : zH) (H : Heap) : Prop :=
  (∀ (q : Nat) (c : zE), h.1 q = some c → q < h.2 ∧ zat U D r (r q) c H) ∧ (∀ q : Nat, q < h.2 → r q < H.size) ∧ (∀ i j : Nat, i < h.2 → j < h.2 → r i = r j → i = j) ∧ ∀ k : Nat, r (h.2 + k) = H.size + k
/-- the addresses that may be written -/
def zA (r : Nat → Nat) : Nat → Prop := fun q => ∃ a : Nat, 2 ≤ a ∧ r a = q
/-- the words that go along with every call -/
def zW : List Cond := lw_tbl.filter goodWord
theorem zW_good : GoodIn zW zW := fun w h => ⟨h, good_of_word (List.mem_filter.mp h).2⟩
/-- nest mates' links: they are no words, they go along in the worlds -/
def zNw (U : State) : Prop := ∀ w ∈ lw_tbl, ∀ (a : String) (i : Nat) (x : MethodName) (h : String), w = .methodLinkNest a i x h → va_Nw w U
def zEnv (D : va_G) (r : Nat → Nat) (U : State) (H : Heap) : Prop := va_K D vwCl [] U ∧ va_Z "LateLetters" "FACTORIALS" "[J" (.ref (r 1)) (zA r) U H ∧ zNw U ∧ va_AO ztel U
theorem zat.moved {u U : State} {D : va_G} {r : Nat → Nat} {a : Nat} {c : zE} {H : Heap} (hvm : u.vm.Alike U.vm) (h : zat u D r a c H) : zat U D r a c H := by
  rcases c with ⟨ci, fs⟩ | ⟨k, n, f⟩ | ⟨n, f⟩
  · exact h
  · obtain ⟨cA, h1, h2, h3⟩ := h
    exact ⟨cA, arrOfT_moved hvm h1, h2.moved hvm, h3⟩
  · obtain ⟨cA, h1, h2, h3⟩ := h
    exact ⟨cA, arrOfT_moved hvm h1, h2.moved hvm, h3⟩
theorem zat.kept {U : State} {D : va_G} {r : Nat → Nat} {a : Nat} {c : zE} {H H1 : Heap} (h : zat U D r a c H) (hq : H1[a]? = H[a]?) : zat U D r a c H1 := by
  rcases c with ⟨ci, fs⟩ | ⟨k, n, f⟩ | ⟨n, f⟩
  · exact va_at.kept (q := (a, .inr (ci, fs.map (zv r)))) h hq
  · obtain ⟨cA, h1, h2, h3⟩ := h
    exact ⟨cA, h1, h2, by rw [hq]; exact h3⟩
  · obtain ⟨cA, h1, h2, h3⟩ := h
    exact ⟨cA, h1, h2, by rw [hq]; exact h3⟩
theorem zRel.moved {u U : State} {D : va_G} {r : Nat → Nat} {h : zH} {H : Heap} (hvm : u.vm.Alike U.vm) (k : zRel u D r h H) : zRel U D r h H :=
  ⟨fun q c hq => ⟨(k.1 q c hq).1, (k.1 q c hq).2.moved hvm⟩, k.2⟩
/-- one cell is written anew -/
theorem zRel.put {U : State} {D : va_G} {r : Nat → Nat} {h : zH} {H H1 : Heap} {a : Nat} {c c0 : zE} (k : zRel U D r h H) (h0 : h.1 a = some c0) (hc : zat U D r (r a) c H1) (hz : H1.size = H.size) (ho : ∀ q, q ≠ r a → H1[q]? = H[q]?) : zRel U D r (zup h a c) H1 := by
  obtain ⟨k1, k2, k3, k4⟩ := k
  have hal := (k1 a c0 h0).1
  refine ⟨fun q e hq => ?_, fun q hq => by rw [hz]; exact k2 q hq, k3, fun j => by rw [hz]; exact k4 j⟩
  by_cases hqa : q = a
  · subst hqa
    rw [zup_same] at hq
    cases hq
    exact ⟨hal, hc⟩
  · rw [zup_ne _ _ hqa] at hq
    obtain ⟨g1, g2⟩ := k1 q e hq
    exact ⟨g1, g2.kept (ho _ (fun e => hqa (k3 q a g1 hal e)))⟩
/-- a new cell -/
theorem zRel.push {U : State} {D : va_G} {r : Nat → Nat} {h : zH} {H H1 : Heap} {c : zE} (k : zRel U D r h H) (hc : zat U D r H.size c H1) (hz : H1.size = H.size + 1) (ho : ∀ q, q < H.size → H1[q]? = H[q]?) : zRel U D r (znew h c) H1 ∧ r h.2 = H.size := by
  obtain ⟨k1, k2, k3, k4⟩ := k
  have hr : r h.2 = H.size := k4 0
  refine ⟨⟨fun q e hq => ?_, fun q hq => ?_, fun i j hi hj he => ?_, fun j => ?_⟩, hr⟩
  · by_cases hqa : q = h.2
    · subst hqa
      simp [znew] at hq
      cases hq
      refine ⟨by simp [znew], ?_⟩
      rw [hr]; exact hc
    · simp [znew, hqa] at hq
      obtain ⟨g1, g2⟩ := k1 q e hq
      exact ⟨by simp [znew]; omega, g2.kept (ho _ (k2 q g1))⟩
  · simp [znew] at hq
    rw [hz]
    rcases Nat.lt_or_ge q h.2 with g | g
    · have := k2 q g; omega
    · rw [show q = h.2 by omega, hr]; omega
  · simp [znew] at hi hj
    rcases Nat.lt_or_ge i h.2 with g | g <;> rcases Nat.lt_or_ge j h.2 with g' | g'
    · exact k3 i j g g' he
    · have e1 := k2 i g; have e2 : j = h.2 := by omega
      rw [e2, hr] at he; omega
    · have e1 := k2 j g'; have e2 : i = h.2 := by omega
      rw [e2, hr] at he; omega
    · omega
  · have := k4 (j + 1)
    show r (h.2 + 1 + j) = _
    rw [hz, show h.2 + 1 + j = h.2 + (j + 1) by omega, this]; omega
theorem zEnv.to {D : va_G} {r : Nat → Nat} {u U : State} {H H1 : Heap} (hW : u.WarmedH U.vm) (hq : ∀ a : Nat, a < H.size → ¬ zA r a → H1[a]? = H[a]?) (h : zEnv D r u H) : zEnv D r U H1 := by
  obtain ⟨h1, h2, h3, h4⟩ := h
  refine ⟨va_K.moved hW.alike h1, (h2.kept hq).moved hW.alike, fun w hw a i x g e => ?_, ?_⟩
  · subst e
    exact va_Nw.warmM hW (h3 _ hw a i x g rfl)
  · exact (va_AO.moved (u := u) hW.alike h4)
end
section
/-! THE ABSTRACT MACHINE'S JUDGEMENTS. Z: from here the method comes to its end with Q. zC: a call comes to its end with Q. -/
/-- a method: its name, its code, its locals, its kind of answer -/
abbrev zM : Type := MethodName × ByteArray × Nat × Option FieldType
def zfit (ret : Option FieldType) (v : Option zV) : Prop := match ret, v with
  | none, none => True
  | some .int, some (.inl _) => True
  | some .boolean, some (.inl x) => x = 0 ∨ x = 1
  | some .long, some (.inr (.inl _)) => True
  | some (.object _), some (.inr (.inr _)) => True
  | _, _ => False
def zRI (v : Option zV) (cc : ByteArray) (pc : Nat) : Prop := match v with
  | none => decode cc pc = .ok (.return_, 1)
  | some (.inl _) => decode cc pc = .ok (.ireturn, 1)
  | some (.inr (.inl _)) => decode cc pc = .ok (.lreturn, 1)
  | some (.inr (.inr _)) => decode cc pc = .ok (.areturn, 1)
def zL (r : Nat → Nat) (L : List (Option zV)) (ls : Array Slot) (nL : Nat) : Prop := ls.size = nL ∧ lv_wf ls ∧ ∀ (i : Nat) (v : zV), L[i]? = some (some v) → ls[i]? = some (.val (zv r v))
abbrev zK : Type := Nat × Nat × Nat × Nat
def zCtx (d : Nat) (M : zM) (mr : zK) (p : Program) (R : Room) (s : State) (m : MethodId) (args : Array Value) (meth : Method) (c : Code) (D : va_G) (r : Nat → Nat) : Prop :=
  p.tables.exec = Jvm.exec ∧ c.code = M.2.1 ∧ c.maxLocals = M.2.2.1 ∧ s.vm.findClass M.1.cls = some m.cls ∧ (∀ w ∈ zW, w.before args s = true) ∧ zEnv D r s s.heap ∧ meth.name = M.1.name ∧ d ≤ R.frames ∧ 64 * d ≤ R.locals ∧ mr.1 ≤ R.cells ∧ mr.2.1 ≤ R.slots
def zEnd (M : zM) (mr : zK) (Q : Option zV → zH → Prop) (p : Program) (l : Launch) (e : Env) (R : Room) (s : State) (m : MethodId) (args : Array Value) (below : List Frame) (meth : Method) (c : Code) (D : va_G) (r : Nat → Nat) (G : State → Prop) : Prop :=
  ∀ (v : Option zV) (h : zH) (H : Heap) (locs : List Loc) (ls : Array Slot) (pc : Nat), zRI v M.2.1 pc → zfit M.2.2.2 v → Q v h → zRel s D r h H → va_S (zA r) s.heap H locs →
    W p l e R s m args below meth c H locs mr.1 mr.2.1 G (F0 m pc ls (v.toList.map (zv r)))
def Z (d : Nat) (M : zM) (mr : zK) (pc : Nat) (L : List (Option zV)) (st : List zV) (h : zH) (Q : Option zV → zH → Prop) : Prop :=
  ∀ (p : Program) (l : Launch) (e : Env) (R : Room) (s : State) (m : MethodId) (args : Array Value) (below : List Frame) (meth : Method) (c : Code) (D : va_G) (r : Nat → Nat) (G : State → Prop) (H : Heap) (locs : List Loc) (ls : Array Slot),
    zCtx d M mr p R s m args meth c D r → zEnd M mr Q p l e R s m args below meth c D r G → zL r L ls M.2.2.1 → zRel s D r h H → va_S (zA r) s.heap H locs →
    W p l e R s m args below meth c H locs mr.2.2.1 mr.2.2.2 G (F0 m pc ls (st.map (zv r)))
def zroom (d mc ms : Nat) : Room := { frames := d, cells := mc, slots := ms, locals := 64 * d }
def zPc (D : va_G) (r : Nat → Nat) (av : List zV) (h : zH) : Array Value → State → Prop := va_Pc (av.map (zv r)) (fun U => zEnv D r U U.heap ∧ zRel U D r h U.heap)
def zQc (D : va_G) (r : Nat → Nat) (Q : Option zV → zH → Prop) : Array Value → State → Outcome → State → Prop := fun _ st o t => (∃ (v : Option zV) (h : zH), o = .returned (v.map (zv r)) ∧ Q v h ∧ zRel t D r h t.heap) ∧ va_F (zA r) st t
def zC (d : Nat) (M : zM) (mc ms : Nat) (av : List zV) (h : zH) (Q : Option zV → zH → Prop) : Prop :=
  ∀ (l : Launch) (D : va_G) (r : Nat → Nat), Met l M.1 (Cond.code M.1 M.2.1 M.2.2.1 M.2.2.2 :: zW) (zroom d mc ms) (zPc D r av h) (zQc D r Q) mc ms (zA r)
/-- the locals at a method's entry -/
def zent1 : List zV → List (Option zV)
  | [] => []
  | .inr (.inl x) :: t => some (.inr (.inl x)) :: none :: zent1 t
  | v :: t => some v :: zent1 t
def zent (av : List zV) (n : Nat) : List (Option zV) := zent1 av ++ List.replicate (n - (zent1 av).length) none
theorem zent1_len (r : Nat → Nat) : ∀ av : List zV, (lg_sl (av.map (zv r))).length = (zent1 av).length
  | [] => rfl
  | .inr (.inl x) :: t => by
    have := zent1_len r t
    simp only [lg_sl, List.map_cons, List.flatMap_cons, zv, Value.category, zent1, List.length_append, List.length_cons] at this ⊢
    simp at this ⊢
    omega
  | .inl x :: t => by
    have := zent1_len r t
    simp only [lg_sl, List.map_cons, List.flatMap_cons, zv, Value.category, zent1, List.length_append, List.length_cons] at this ⊢
    simp at this ⊢
    omega
  | .inr (.inr (some x)) :: t => by
    have := zent1_len r t
    simp only [lg_sl, List.map_cons, List.flatMap_cons, zv, Value.category, zent1, List.length_append, List.length_cons] at this ⊢
    simp at this ⊢
    omega
  | .inr (.inr none) :: t => by
    have := zent1_len r t
    simp only [lg_sl, List.map_cons, List.flatMap_cons, zv, Value.category, zent1, List.length_append, List.length_cons] at this ⊢
    simp at this ⊢
    omega
theorem zent1_at (r : Nat → Nat) : ∀ (av : List zV) (i : Nat) (v : zV), (zent1 av)[i]? = some (some v) → (lg_sl (av.map (zv r)))[i]? = some (.val (zv r v))
  | [], i, v, h => by simp [zent1] at h
  | .inr (.inl x) :: t, i, v, h => by
    have ih := zent1_at r t
    match i, h with
    | 0, h => simp [zent1] at h; subst h; simp [lg_sl, zv, Value.category]
    | 1, h => simp [zent1] at h
    | i + 2, h => simp [zent1] at h; have := ih i v h; simp only [lg_sl, List.map_cons, List.flatMap_cons, zv, Value.category] at this ⊢; simpa using this
  | .inl x :: t, i, v, h => by
    have ih := zent1_at r t
    match i, h with
    | 0, h => simp [zent1] at h; subst h; simp [lg_sl, zv, Value.category]
    | i + 1, h => simp [zent1] at h; have := ih i v h; simp only [lg_sl, List.map_cons, List.flatMap_cons, zv, Value.category] at this ⊢; simpa using this
  | .inr (.inr (some x)) :: t, i, v, h => by
    have ih := zent1_at r t
    match i, h with
    | 0, h => simp [zent1] at h; subst h; simp [lg_sl, zv, Value.category]
    | i + 1, h => simp [zent1] at h; have := ih i v h; simp only [lg_sl, List.map_cons, List.flatMap_cons, zv, Value.category] at this ⊢; simpa using this
  | .inr (.inr none) :: t, i, v, h => by
    have ih := zent1_at r t
    match i, h with
    | 0, h => simp [zent1] at h; subst h; simp [lg_sl, zv, Value.category]
    | i + 1, h => simp [zent1] at h; have := ih i v h; simp only [lg_sl, List.map_cons, List.flatMap_cons, zv, Value.category] at this ⊢; simpa using this
theorem zL_entry (r : Nat → Nat) (av : List zV) {n : Nat} (hn : (zent1 av).length ≤ n) : zL r (zent av n) ((lg_sl (av.map (zv r)) ++ List.replicate (n - (lg_sl (av.map (zv r))).length) Slot.unset).toArray) n := by
  obtain ⟨h1, h2, -⟩ := lv_entry (av.map (zv r)) (n := n) (by rw [zent1_len]; exact hn)
  refine ⟨h1, h2, fun i v hi => ?_⟩
  have hlen := zent1_len r av
  unfold zent at hi
  rcases Nat.lt_or_ge i (zent1 av).length with g | g
  · rw [List.getElem?_append_left g] at hi
    have := zent1_at r av i v hi
    simp only [List.getElem?_toArray]
    rw [List.getElem?_append_left (by omega)]
    exact this
  · rw [List.getElem?_append_right g] at hi
    have : (List.replicate (n - (zent1 av).length) (none : Option zV))[i - (zent1 av).length]? ≠ some (some v) := by
      rw [List.getElem?_replicate]
      split <;> simp
    exact absurd hi this
theorem zPc_blind (D : va_G) (r : Nat → Nat) (av : List zV) (h : zH) : FrameBlind (zPc D r av h) := by
  intro a U g mk ⟨h1, ⟨k1, k2, k3, k4⟩, h3⟩
  refine ⟨h1, ⟨va_K.moved (u := U) (U := U.calling g mk a) (Vm.Alike.refl U.vm) k1, va_Z.moved (u := U) (U := U.calling g mk a) (Vm.Alike.refl U.vm) k2, fun w hw b i x hh e => ?_, va_AO.moved (u := U) (U := U.calling g mk a) (Vm.Alike.refl U.vm) k4⟩, zRel.moved (u := U) (U := U.calling g mk a) (Vm.Alike.refl U.vm) h3⟩
  subst e
  exact va_Nw.same rfl rfl (k3 _ hw b i x hh rfl)
set_option maxHeartbeats 1000000 in
/-- a call's contract, out of the walk of the method's body -/
theorem zC.of {d : Nat} {M : zM} {mc ms : Nat} {av : List zV} {h : zH} {Q : Option zV → zH → Prop} (hp : plainName M.1.cls = true) (hn : (zent1 av).length ≤ M.2.2.1) (k : Z d M (mc, ms, 0, 0) 0 (zent av M.2.2.1) [] h Q) : zC d M mc ms av h Q := by
  obtain ⟨y, cc, nL, ret⟩ := M
  intro l D r
  refine Met.ofW (cc := cc) (maxL := nL) (ret := ret) hp rfl ?_
  intro p e s m args below meth c s₁ B hml hv
  obtain ⟨rfl, hE, hR⟩ := hv
  have hr := B.returns
  have hlocks := B.notSynchronized
  have hts := atoms_spec (ws := Cond.code y cc nL ret :: zW) B.pre
  have hown : s.vm.findClass y.cls = some m.cls := findClass_of_methodNamed B.named
  have hin : meth.name = y.name := (name_of_methodNamed B.named B.method).1
  rw [lg_entry_eq]
  refine k p l e (headSpec (Cond.code y cc nL ret :: zW) (zroom d mc ms)).room s m _ below meth c D r _ s.heap [] _ ⟨B.exec, B.bytes, hml, hown, fun w hw => hts w (List.mem_cons_of_mem _ hw), hE, hin, Nat.le_refl _, Nat.le_refl _, Nat.le_refl _, Nat.le_refl _⟩ ?_ (zL_entry r av hn) hR va_S.rf
  intro v h2 H2 locs2 ls2 pc2 hi hf hq hR2 hS2
  have post : ∀ t : State, t.heap = H2 → s.WarmedH t.vm → zQc D r Q (List.map (zv r) av).toArray s (.returned (v.map (zv r))) t := fun t ht hW => ⟨⟨v, h2, rfl, hq, by rw [ht]; exact hR2.moved hW.alike⟩, hS2.F ht⟩
  rcases v with _ | x | x | x
  · cases ret with
    | none => exact W.vret B.exec B.bytes hr post hS2.2.2 hi
    | some t => cases t <;> exact absurd hf id
  · cases ret with
    | none => exact absurd hf id
    | some t =>
      cases t with
      | int => exact W.iret B.exec B.bytes hr post hS2.2.2 hi
      | boolean =>
        have hx : narrow .boolean (.int (Int32.ofInt x)) = .int (Int32.ofInt x) := by
          rcases hf with rfl | rfl <;> decide
        exact W.zret B.exec B.bytes hr hx post hS2.2.2 hi
      | _ => exact absurd hf id
  · cases ret with
    | none => exact absurd hf id
    | some t =>
      cases t with
      | long => exact W.lret B.exec B.bytes hr post hS2.2.2 hi
      | _ => exact absurd hf id
  · cases ret with
    | none => exact absurd hf id
    | some t =>
      cases t with
      | object C =>
        cases x with
        | none => exact W.aret B.exec B.bytes hr (Or.inl ⟨C, rfl⟩) (Or.inl rfl) post hS2.2.2 hi
        | some x => exact W.aret B.exec B.bytes hr (Or.inl ⟨C, rfl⟩) (Or.inr ⟨_, rfl⟩) post hS2.2.2 hi
      | _ => exact absurd hf id
end
section
/-! ROWS OF THE ABSTRACT MACHINE: one for an instruction -/
theorem zmem {w : Cond} (i : Nat) (h : lw_tbl[i]? = some w) (g : goodWord w = true) : w ∈ zW := List.mem_filter.mpr ⟨List.mem_of_getElem? h, g⟩
theorem z_rng {x : Int} (h : -2147483648 ≤ x ∧ x ≤ 2147483647) : (Int32.ofInt x).toInt = x := Int32.toInt_ofInt_of_le (by omega) (by omega)
theorem z_rngJ {x : Int} (h : -9223372036854775808 ≤ x ∧ x ≤ 9223372036854775807) : (Int64.ofInt x).toInt = x := Int64.toInt_ofInt_of_le (by omega) (by omega)
theorem z_lt {x y : Int} (hx : -2147483648 ≤ x ∧ x ≤ 2147483647) (hy : -2147483648 ≤ y ∧ y ≤ 2147483647) : Int32.ofInt x < Int32.ofInt y ↔ x < y := by rw [Int32.lt_iff_toInt_lt, z_rng hx, z_rng hy]
theorem z_le {x y : Int} (hx : -2147483648 ≤ x ∧ x ≤ 2147483647) (hy : -2147483648 ≤ y ∧ y ≤ 2147483647) : Int32.ofInt x ≤ Int32.ofInt y ↔ x ≤ y := by rw [Int32.le_iff_toInt_le, z_rng hx, z_rng hy]
theorem z_eq {x y : Int} (hx : -2147483648 ≤ x ∧ x ≤ 2147483647) (hy : -2147483648 ≤ y ∧ y ≤ 2147483647) : Int32.ofInt x = Int32.ofInt y ↔ x = y := by rw [← Int32.toInt_inj, z_rng hx, z_rng hy]
theorem z_ltJ {x y : Int} (hx : -9223372036854775808 ≤ x ∧ x ≤ 9223372036854775807) (hy : -9223372036854775808 ≤ y ∧ y ≤ 9223372036854775807) : Int64.ofInt x < Int64.ofInt y ↔ x < y := by rw [Int64.lt_iff_toInt_lt, z_rngJ hx, z_rngJ hy]
theorem z_eqJ {x y : Int} (hx : -9223372036854775808 ≤ x ∧ x ≤ 9223372036854775807) (hy : -9223372036854775808 ≤ y ∧ y ≤ 9223372036854775807) : Int64.ofInt x = Int64.ofInt y ↔ x = y := by rw [← Int64.toInt_inj, z_rngJ hx, z_rngJ hy]
def zand (x y : Int) : Int := (Int32.ofInt x &&& Int32.ofInt y).toInt
def zor (x y : Int) : Int := (Int32.ofInt x ||| Int32.ofInt y).toInt
def zxor (x y : Int) : Int := (Int32.ofInt x ^^^ Int32.ofInt y).toInt
def zshl (x y : Int) : Int := (Int32.ofInt x <<< (Int32.ofInt y &&& 31)).toInt
def zshr (x y : Int) : Int := (Int32.ofInt x >>> (Int32.ofInt y &&& 31)).toInt
def zushr (x y : Int) : Int := ((Int32.ofInt x).toUInt32 >>> ((Int32.ofInt y).toUInt32 &&& Int32.toUInt32 31)).toInt32.toInt
def zlshl (x y : Int) : Int := (Int64.ofInt x <<< ((Int32.ofInt y).toInt64 &&& 63)).toInt
def zlushr (x y : Int) : Int := ((Int64.ofInt x).toUInt64 >>> ((Int32.ofInt y).toInt64.toUInt64 &&& Int64.toUInt64 63)).toInt64.toInt
def zland (x y : Int) : Int := (Int64.ofInt x &&& Int64.ofInt y).toInt
def zlor (x y : Int) : Int := (Int64.ofInt x ||| Int64.ofInt y).toInt
def zl2i (x : Int) : Int := (Int64.ofInt x).toInt32.toInt
/-- what is on top of the stack behind a call -/
def zpush (v : Option zV) (st : List zV) : List zV := match v with
  | none => st
  | some a => a :: st
/-- a local is written: one of two places that lies ahead is gone -/
def zset (L : List (Option zV)) (i : Nat) (v : zV) : List (Option zV) := match i with
  | 0 => L.set 0 (some v)
  | i + 1 => (match L[i]? with
    | some (some (.inr (.inl _))) => (L.set i none).set (i + 1) (some v)
    | _ => L.set (i + 1) (some v))
def zset2 (L : List (Option zV)) (i : Nat) (v : zV) : List (Option zV) := (zset L i v).set (i + 1) none
section ZROWS
variable {d : Nat} {M : zM} {mr : zK} {pc : Nat} {L : List (Option zV)} {st : List zV} {h : zH} {Q : Option zV → zH → Prop}

theorem z_iconst {v : Int} (n : Nat) (dd : decode M.2.1 pc = .ok (.iconst v, 1)) (hn : pc + 1 = n) (k : Z d M mr n L (vI v :: st) h Q) : Z d M mr pc L (st) h Q := by
  subst hn
  intro p l e R s m args below meth c D r G H locs ls C0 hG hL hR hS
  have K := k p l e R s m args below meth c D r G H locs ls C0 hG hL hR hS
  refine lv_iconst C0.1 C0.2.1 dd rfl ?_
  simpa only [List.map_cons, zv] using K

theorem z_bipush {v : Int} (n : Nat) (dd : decode M.2.1 pc = .ok (.bipush v, 2)) (hn : pc + 2 = n) (hv : (Int8.ofInt v).toInt32 = Int32.ofInt v) (k : Z d M mr n L (vI v :: st) h Q) : Z d M mr pc L (st) h Q := by
  subst hn
  intro p l e R s m args below meth c D r G H locs ls C0 hG hL hR hS
  have K := k p l e R s m args below meth c D r G H locs ls C0 hG hL hR hS
  refine lv_bipush C0.1 C0.2.1 dd hv ?_
  simpa only [List.map_cons, zv] using K

theorem z_sipush {v : Int} (n : Nat) (dd : decode M.2.1 pc = .ok (.sipush v, 3)) (hn : pc + 3 = n) (hv : (Int16.ofInt v).toInt32 = Int32.ofInt v) (k : Z d M mr n L (vI v :: st) h Q) : Z d M mr pc L (st) h Q := by
  subst hn
  intro p l e R s m args below meth c D r G H locs ls C0 hG hL hR hS
  have K := k p l e R s m args below meth c D r G H locs ls C0 hG hL hR hS
  refine lv_sipush C0.1 C0.2.1 dd hv ?_
  simpa only [List.map_cons, zv] using K

theorem z_lconst {v : Fin 2} (n : Nat) (dd : decode M.2.1 pc = .ok (.lconst v, 1)) (hn : pc + 1 = n) (k : Z d M mr n L (vJ (v.val : Int) :: st) h Q) : Z d M mr pc L (st) h Q := by
  subst hn
  intro p l e R s m args below meth c D r G H locs ls C0 hG hL hR hS
  have K := k p l e R s m args below meth c D r G H locs ls C0 hG hL hR hS
  refine lv_lconst (v := Int64.ofInt ((v.val : Nat) : Int)) C0.1 C0.2.1 dd Int64.ofInt_eq_ofNat.symm ?_
  simpa only [List.map_cons, zv] using K

theorem z_null  (n : Nat) (dd : decode M.2.1 pc = .ok (.aconst_null, 1)) (hn : pc + 1 = n) (k : Z d M mr n L (vN :: st) h Q) : Z d M mr pc L (st) h Q := by
  subst hn
  intro p l e R s m args below meth c D r G H locs ls C0 hG hL hR hS
  have K := k p l e R s m args below meth c D r G H locs ls C0 hG hL hR hS
  refine lv_null C0.1 C0.2.1 dd ?_
  simpa only [List.map_cons, zv] using K

theorem z_ldc {idx : Nat} {x : Int} (n : Nat) (dd : decode M.2.1 pc = .ok (.ldc idx, 2)) (hn : pc + 2 = n) (hw : Cond.constant M.1.cls idx (Int32.ofInt x) ∈ zW) (k : Z d M mr n L (vI x :: st) h Q) : Z d M mr pc L st h Q := by
  subst hn
  intro p l e R s m args below meth c D r G H locs ls C0 hG hL hR hS
  have K := k p l e R s m args below meth c D r G H locs ls C0 hG hL hR hS
  exact lv_ldc C0.1 C0.2.1 C0.2.2.2.1 (C0.2.2.2.2.1 _ hw) dd K

theorem z_ldcw {idx : Nat} {x : Int} (n : Nat) (dd : decode M.2.1 pc = .ok (.ldc_w idx, 3)) (hn : pc + 3 = n) (hw : Cond.constant M.1.cls idx (Int32.ofInt x) ∈ zW) (k : Z d M mr n L (vI x :: st) h Q) : Z d M mr pc L st h Q := by
  subst hn
  intro p l e R s m args below meth c D r G H locs ls C0 hG hL hR hS
  have K := k p l e R s m args below meth c D r G H locs ls C0 hG hL hR hS
  exact lv_ldcw C0.1 C0.2.1 C0.2.2.2.1 (C0.2.2.2.2.1 _ hw) dd K

theorem z_ldc2 {idx : Nat} {x : Int} (n : Nat) (dd : decode M.2.1 pc = .ok (.ldc2_w idx, 3)) (hn : pc + 3 = n) (hw : Cond.constantLong M.1.cls idx (Int64.ofInt x) ∈ zW) (k : Z d M mr n L (vJ x :: st) h Q) : Z d M mr pc L st h Q := by
  subst hn
  intro p l e R s m args below meth c D r G H locs ls C0 hG hL hR hS
  have K := k p l e R s m args below meth c D r G H locs ls C0 hG hL hR hS
  exact lv_ldc2 C0.1 C0.2.1 C0.2.2.2.1 (C0.2.2.2.2.1 _ hw) dd K

theorem z_iload {i : Nat} {x : Int} (n : Nat) (dd : decode M.2.1 pc = .ok (.iload i, 2)) (hn : pc + 2 = n) (hl : L[i]? = some (some (vI x))) (k : Z d M mr n L (vI x :: st) h Q) : Z d M mr pc L st h Q := by
  subst hn
  intro p l e R s m args below meth c D r G H locs ls C0 hG hL hR hS
  have K := k p l e R s m args below meth c D r G H locs ls C0 hG hL hR hS
  exact lv_iload C0.1 C0.2.1 dd (hL.2.2 i _ hl) K
theorem z_iload_n {i : Fin 4} {x : Int} (n : Nat) (dd : decode M.2.1 pc = .ok (.iload_n i, 1)) (hn : pc + 1 = n) (hl : L[i.val]? = some (some (vI x))) (k : Z d M mr n L (vI x :: st) h Q) : Z d M mr pc L st h Q := by
  subst hn
  intro p l e R s m args below meth c D r G H locs ls C0 hG hL hR hS
  have K := k p l e R s m args below meth c D r G H locs ls C0 hG hL hR hS
  exact lv_iload_n C0.1 C0.2.1 dd rfl (hL.2.2 _ _ hl) K

theorem z_lload {i : Nat} {x : Int} (n : Nat) (dd : decode M.2.1 pc = .ok (.lload i, 2)) (hn : pc + 2 = n) (hl : L[i]? = some (some (vJ x))) (k : Z d M mr n L (vJ x :: st) h Q) : Z d M mr pc L st h Q := by
  subst hn
  intro p l e R s m args below meth c D r G H locs ls C0 hG hL hR hS
  have K := k p l e R s m args below meth c D r G H locs ls C0 hG hL hR hS
  exact lv_lload C0.1 C0.2.1 dd (hL.2.2 i _ hl) K
theorem z_lload_n {i : Fin 4} {x : Int} (n : Nat) (dd : decode M.2.1 pc = .ok (.lload_n i, 1)) (hn : pc + 1 = n) (hl : L[i.val]? = some (some (vJ x))) (k : Z d M mr n L (vJ x :: st) h Q) : Z d M mr pc L st h Q := by
  subst hn
  intro p l e R s m args below meth c D r G H locs ls C0 hG hL hR hS
  have K := k p l e R s m args below meth c D r G H locs ls C0 hG hL hR hS
  exact lv_lload_n C0.1 C0.2.1 dd rfl (hL.2.2 _ _ hl) K

theorem z_aload {i : Nat} {x : Nat} (n : Nat) (dd : decode M.2.1 pc = .ok (.aload i, 2)) (hn : pc + 2 = n) (hl : L[i]? = some (some (vR x))) (k : Z d M mr n L (vR x :: st) h Q) : Z d M mr pc L st h Q := by
  subst hn
  intro p l e R s m args below meth c D r G H locs ls C0 hG hL hR hS
  have K := k p l e R s m args below meth c D r G H locs ls C0 hG hL hR hS
  exact lv_aload C0.1 C0.2.1 dd (hL.2.2 i _ hl) K
theorem z_aload_n {i : Fin 4} {x : Nat} (n : Nat) (dd : decode M.2.1 pc = .ok (.aload_n i, 1)) (hn : pc + 1 = n) (hl : L[i.val]? = some (some (vR x))) (k : Z d M mr n L (vR x :: st) h Q) : Z d M mr pc L st h Q := by
  subst hn
  intro p l e R s m args below meth c D r G H locs ls C0 hG hL hR hS
  have K := k p l e R s m args below meth c D r G H locs ls C0 hG hL hR hS
  exact lv_aload_n C0.1 C0.2.1 dd rfl (hL.2.2 _ _ hl) K

def zas (r : Nat → Nat) (L : List (Option zV)) : List (Nat × Value) := (List.range L.length).filterMap (fun i => match L[i]? with
  | some (some v) => some (i, zv r v)
  | _ => none)
theorem zas_mem {r : Nat → Nat} {L : List (Option zV)} {q : Nat × Value} : q ∈ zas r L ↔ ∃ v : zV, L[q.1]? = some (some v) ∧ q.2 = zv r v := by
  unfold zas
  rw [List.mem_filterMap]
  constructor
  · rintro ⟨i, -, hi⟩
    split at hi
    · next v hv => cases hi; exact ⟨v, hv, rfl⟩
    · cases hi
  · rintro ⟨v, hv, e⟩
    refine ⟨q.1, List.mem_range.mpr (List.getElem?_eq_some_iff.mp hv).1, ?_⟩
    rw [hv]; simp [← e]
theorem zL_has {r : Nat → Nat} {L : List (Option zV)} {ls : Array Slot} {nL : Nat} (h : zL r L ls nL) : lv_has ls nL (zas r L) := by
  refine ⟨h.1, h.2.1, fun q hq => ?_⟩
  obtain ⟨v, hv, e⟩ := zas_mem.mp hq
  rw [e]; exact h.2.2 _ _ hv
theorem zv_cat1 {r : Nat → Nat} {v : zV} (h : (zv r v).category = 2) : ∃ x, v = .inr (.inl x) := by
  rcases v with x | x | x | x
  · simp [zv, Value.category] at h
  · exact ⟨x, rfl⟩
  · simp [zv, Value.category] at h
  · simp [zv, Value.category] at h
theorem zset_ne {L : List (Option zV)} {i j : Nat} {v w : zV} (h : (zset L i v)[j]? = some (some w)) (hj : j ≠ i) : L[j]? = some (some w) ∧ ∀ x, j + 1 = i → w ≠ .inr (.inl x) := by
  cases i with
  | zero =>
    unfold zset at h
    rw [List.getElem?_set_ne (Ne.symm hj)] at h
    exact ⟨h, fun x e => by omega⟩
  | succ i =>
    unfold zset at h
    dsimp only at h
    split at h
    · next x hx =>
      rw [List.getElem?_set_ne (Ne.symm hj)] at h
      by_cases e : j = i
      · subst e
        rw [List.getElem?_set_self' ] at h
        rw [hx] at h
        simp at h
      · rw [List.getElem?_set_ne (Ne.symm e)] at h
        exact ⟨h, fun x e' => by omega⟩
    · next hx =>
      rw [List.getElem?_set_ne (Ne.symm hj)] at h
      refine ⟨h, fun x e' hw => ?_⟩
      have : j = i := by omega
      subst this; subst hw
      exact hx x h
theorem zset_eq {L : List (Option zV)} {i : Nat} {v w : zV} (h : (zset L i v)[i]? = some (some w)) : w = v := by
  have key : ∀ K : List (Option zV), (K.set i (some v))[i]? = some (some w) → w = v := by
    intro K hK
    rw [List.getElem?_set_self'] at hK
    cases hKi : K[i]? with
    | none => rw [hKi] at hK; simp at hK
    | some a => rw [hKi] at hK; simp at hK; exact hK.symm
  cases i with
  | zero => exact key L h
  | succ i =>
    unfold zset at h
    dsimp only at h
    split at h
    · exact key _ h
    · exact key _ h
theorem zL_set {r : Nat → Nat} {L : List (Option zV)} {ls : Array Slot} {nL i : Nat} {v : zV} (h : lv_has ls nL ((i, zv r v) :: (zas r L).filter (fun q => !(q.1 == i) && !(q.1 + 1 == i && q.2.category == 2)))) : zL r (zset L i v) ls nL := by
  refine ⟨h.1, h.2.1, fun j w hw => ?_⟩
  by_cases hj : j = i
  · subst hj
    rw [zset_eq hw]
    exact h.2.2 (j, zv r v) List.mem_cons_self
  · obtain ⟨g1, g2⟩ := zset_ne hw hj
    refine h.2.2 (j, zv r w) (List.mem_cons_of_mem _ (List.mem_filter.mpr ⟨zas_mem.mpr ⟨w, g1, rfl⟩, ?_⟩))
    simp only [Bool.and_eq_true, Bool.not_eq_true', beq_eq_false_iff_ne, ne_eq, Bool.and_eq_false_iff]
    refine ⟨hj, ?_⟩
    by_cases e : j + 1 = i
    · right
      intro hc
      obtain ⟨x, hx⟩ := zv_cat1 hc
      exact g2 x e hx
    · left; exact e
theorem zL_set2 {r : Nat → Nat} {L : List (Option zV)} {ls : Array Slot} {nL i : Nat} {v : zV} (h : lv_has ls nL ((i, zv r v) :: (zas r L).filter (fun q => !(q.1 == i) && (!(q.1 == i + 1) && !(q.1 + 1 == i && q.2.category == 2))))) : zL r (zset2 L i v) ls nL := by
  refine ⟨h.1, h.2.1, fun j w hw => ?_⟩
  unfold zset2 at hw
  have hj1 : j ≠ i + 1 := by
    intro e; subst e
    rw [List.getElem?_set_self'] at hw
    cases hx : (zset L i v)[i + 1]? with
    | none => rw [hx] at hw; simp at hw
    | some a => rw [hx] at hw; simp at hw
  rw [List.getElem?_set_ne (Ne.symm hj1)] at hw
  by_cases hj : j = i
  · subst hj
    rw [zset_eq hw]
    exact h.2.2 (j, zv r v) List.mem_cons_self
  · obtain ⟨g1, g2⟩ := zset_ne hw hj
    refine h.2.2 (j, zv r w) (List.mem_cons_of_mem _ (List.mem_filter.mpr ⟨zas_mem.mpr ⟨w, g1, rfl⟩, ?_⟩))
    simp only [Bool.and_eq_true, Bool.not_eq_true', beq_eq_false_iff_ne, ne_eq, Bool.and_eq_false_iff]
    refine ⟨hj, hj1, ?_⟩
    by_cases e : j + 1 = i
    · right
      intro hc
      obtain ⟨x, hx⟩ := zv_cat1 hc
      exact g2 x e hx
    · left; exact e

theorem z_istore {i : Nat} {x : Int} (n : Nat) (dd : decode M.2.1 pc = .ok (.istore i, 2)) (hn : pc + 2 = n) (hi : i < M.2.2.1) (k : Z d M mr n (zset L i (vI x)) st h Q) : Z d M mr pc L (vI x :: st) h Q := by
  subst hn
  intro p l e R s m args below meth c D r G H locs ls C0 hG hL hR hS
  refine lv_istore C0.1 C0.2.1 dd (zL_has hL) hi rfl (fun ls' hl' => ?_)
  exact k p l e R s m args below meth c D r G H locs ls' C0 hG (zL_set (v := vI x) hl') hR hS

theorem z_istore_n {i : Fin 4} {x : Int} (n : Nat) (dd : decode M.2.1 pc = .ok (.istore_n i, 1)) (hn : pc + 1 = n) (hi : i.val < M.2.2.1) (k : Z d M mr n (zset L i.val (vI x)) st h Q) : Z d M mr pc L (vI x :: st) h Q := by
  subst hn
  intro p l e R s m args below meth c D r G H locs ls C0 hG hL hR hS
  refine lv_istore_n C0.1 C0.2.1 dd rfl (zL_has hL) hi rfl (fun ls' hl' => ?_)
  exact k p l e R s m args below meth c D r G H locs ls' C0 hG (zL_set (v := vI x) hl') hR hS

theorem z_lstore {i : Nat} {x : Int} (n : Nat) (dd : decode M.2.1 pc = .ok (.lstore i, 2)) (hn : pc + 2 = n) (hi : i + 1 < M.2.2.1) (k : Z d M mr n (zset2 L i (vJ x)) st h Q) : Z d M mr pc L (vJ x :: st) h Q := by
  subst hn
  intro p l e R s m args below meth c D r G H locs ls C0 hG hL hR hS
  refine lv_lstore C0.1 C0.2.1 dd (zL_has hL) hi rfl (fun ls' hl' => ?_)
  exact k p l e R s m args below meth c D r G H locs ls' C0 hG (zL_set2 (v := vJ x) hl') hR hS

theorem z_lstore_n {i : Fin 4} {x : Int} (n : Nat) (dd : decode M.2.1 pc = .ok (.lstore_n i, 1)) (hn : pc + 1 = n) (hi : i.val + 1 < M.2.2.1) (k : Z d M mr n (zset2 L i.val (vJ x)) st h Q) : Z d M mr pc L (vJ x :: st) h Q := by
  subst hn
  intro p l e R s m args below meth c D r G H locs ls C0 hG hL hR hS
  refine lv_lstore_n C0.1 C0.2.1 dd rfl (zL_has hL) hi rfl (fun ls' hl' => ?_)
  exact k p l e R s m args below meth c D r G H locs ls' C0 hG (zL_set2 (v := vJ x) hl') hR hS

theorem z_astore_n {i : Fin 4} {x : Nat} (n : Nat) (dd : decode M.2.1 pc = .ok (.astore_n i, 1)) (hn : pc + 1 = n) (hi : i.val < M.2.2.1) (k : Z d M mr n (zset L i.val (vR x)) st h Q) : Z d M mr pc L (vR x :: st) h Q := by
  subst hn
  intro p l e R s m args below meth c D r G H locs ls C0 hG hL hR hS
  refine lv_astore_n C0.1 C0.2.1 dd rfl (zL_has hL) hi rfl (fun ls' hl' => ?_)
  exact k p l e R s m args below meth c D r G H locs ls' C0 hG (zL_set (v := vR x) hl') hR hS

theorem z_iinc {i : Nat} {x j : Int} (n : Nat) (dd : decode M.2.1 pc = .ok (.iinc i j, 3)) (hn : pc + 3 = n) (hi : i < M.2.2.1) (hl : L[i]? = some (some (vI x))) (k : Z d M mr n (zset L i (vI (x + j))) st h Q) : Z d M mr pc L st h Q := by
  subst hn
  intro p l e R s m args below meth c D r G H locs ls C0 hG hL hR hS
  obtain ⟨kk, hkk⟩ := List.getElem?_of_mem (zas_mem (r := r) (q := (i, zv r (vI x))).mpr ⟨_, hl, rfl⟩)
  refine lv_iinc C0.1 C0.2.1 dd (zL_has hL) hkk rfl hi rfl (fun ls' hl' => ?_)
  exact k p l e R s m args below meth c D r G H locs ls' C0 hG (zL_set (v := vI (x + j)) (by rw [show zv r (vI (x + j)) = Value.int (Int32.ofInt x + Int32.ofInt j) by simp only [zv, Int32.ofInt_add]]; exact hl')) hR hS

theorem z_dup_i {x : Int} (n : Nat) (dd : decode M.2.1 pc = .ok (.dup, 1)) (hn : pc + 1 = n) (k : Z d M mr n L (vI x :: vI x :: st) h Q) : Z d M mr pc L (vI x :: st) h Q := by
  subst hn
  intro p l e R s m args below meth c D r G H locs ls C0 hG hL hR hS
  have K := k p l e R s m args below meth c D r G H locs ls C0 hG hL hR hS
  refine lv_dup C0.1 C0.2.1 dd rfl ?_
  simpa only [List.map_cons, zv] using K

theorem z_dup_a {x : Nat} (n : Nat) (dd : decode M.2.1 pc = .ok (.dup, 1)) (hn : pc + 1 = n) (k : Z d M mr n L (vR x :: vR x :: st) h Q) : Z d M mr pc L (vR x :: st) h Q := by
  subst hn
  intro p l e R s m args below meth c D r G H locs ls C0 hG hL hR hS
  have K := k p l e R s m args below meth c D r G H locs ls C0 hG hL hR hS
  refine lv_dup C0.1 C0.2.1 dd rfl ?_
  simpa only [List.map_cons, zv] using K

theorem z_pop {x : Int} (n : Nat) (dd : decode M.2.1 pc = .ok (.pop, 1)) (hn : pc + 1 = n) (k : Z d M mr n L (st) h Q) : Z d M mr pc L (vI x :: st) h Q := by
  subst hn
  intro p l e R s m args below meth c D r G H locs ls C0 hG hL hR hS
  have K := k p l e R s m args below meth c D r G H locs ls C0 hG hL hR hS
  refine lv_pop C0.1 C0.2.1 dd rfl ?_
  simpa only [List.map_cons, zv] using K

theorem z_dup2 {x : Int} {a : Nat} (n : Nat) (dd : decode M.2.1 pc = .ok (.dup2, 1)) (hn : pc + 1 = n) (k : Z d M mr n L (vI x :: vR a :: vI x :: vR a :: st) h Q) : Z d M mr pc L (vI x :: vR a :: st) h Q := by
  subst hn
  intro p l e R s m args below meth c D r G H locs ls C0 hG hL hR hS
  have K := k p l e R s m args below meth c D r G H locs ls C0 hG hL hR hS
  refine lv_dup2_11 C0.1 C0.2.1 dd rfl rfl ?_
  simpa only [List.map_cons, zv] using K

theorem z_iadd {x y : Int} (n : Nat) (dd : decode M.2.1 pc = .ok (.iadd, 1)) (hn : pc + 1 = n) (k : Z d M mr n L (vI (x + y) :: st) h Q) : Z d M mr pc L (vI y :: vI x :: st) h Q := by
  subst hn
  intro p l e R s m args below meth c D r G H locs ls C0 hG hL hR hS
  have K := k p l e R s m args below meth c D r G H locs ls C0 hG hL hR hS
  refine lv_iadd C0.1 C0.2.1 dd ?_
  simpa only [List.map_cons, zv, Int32.ofInt_add] using K

theorem z_isub {x y : Int} (n : Nat) (dd : decode M.2.1 pc = .ok (.isub, 1)) (hn : pc + 1 = n) (k : Z d M mr n L (vI (x - y) :: st) h Q) : Z d M mr pc L (vI y :: vI x :: st) h Q := by
  subst hn
  intro p l e R s m args below meth c D r G H locs ls C0 hG hL hR hS
  have K := k p l e R s m args below meth c D r G H locs ls C0 hG hL hR hS
  refine lv_isub C0.1 C0.2.1 dd ?_
  simpa only [List.map_cons, zv, Int32.ofInt_sub] using K

theorem z_imul {x y : Int} (n : Nat) (dd : decode M.2.1 pc = .ok (.imul, 1)) (hn : pc + 1 = n) (k : Z d M mr n L (vI (x * y) :: st) h Q) : Z d M mr pc L (vI y :: vI x :: st) h Q := by
  subst hn
  intro p l e R s m args below meth c D r G H locs ls C0 hG hL hR hS
  have K := k p l e R s m args below meth c D r G H locs ls C0 hG hL hR hS
  refine lv_imul C0.1 C0.2.1 dd ?_
  simpa only [List.map_cons, zv, Int32.ofInt_mul] using K

theorem z_ladd {x y : Int} (n : Nat) (dd : decode M.2.1 pc = .ok (.ladd, 1)) (hn : pc + 1 = n) (k : Z d M mr n L (vJ (x + y) :: st) h Q) : Z d M mr pc L (vJ y :: vJ x :: st) h Q := by
  subst hn
  intro p l e R s m args below meth c D r G H locs ls C0 hG hL hR hS
  have K := k p l e R s m args below meth c D r G H locs ls C0 hG hL hR hS
  refine lv_ladd C0.1 C0.2.1 dd ?_
  simpa only [List.map_cons, zv, Int64.ofInt_add] using K

theorem z_lsub {x y : Int} (n : Nat) (dd : decode M.2.1 pc = .ok (.lsub, 1)) (hn : pc + 1 = n) (k : Z d M mr n L (vJ (x - y) :: st) h Q) : Z d M mr pc L (vJ y :: vJ x :: st) h Q := by
  subst hn
  intro p l e R s m args below meth c D r G H locs ls C0 hG hL hR hS
  have K := k p l e R s m args below meth c D r G H locs ls C0 hG hL hR hS
  refine lv_lsub C0.1 C0.2.1 dd ?_
  simpa only [List.map_cons, zv, Int64.ofInt_sub] using K

theorem z_lmul {x y : Int} (n : Nat) (dd : decode M.2.1 pc = .ok (.lmul, 1)) (hn : pc + 1 = n) (k : Z d M mr n L (vJ (x * y) :: st) h Q) : Z d M mr pc L (vJ y :: vJ x :: st) h Q := by
  subst hn
  intro p l e R s m args below meth c D r G H locs ls C0 hG hL hR hS
  have K := k p l e R s m args below meth c D r G H locs ls C0 hG hL hR hS
  refine lv_lmul C0.1 C0.2.1 dd ?_
  simpa only [List.map_cons, zv, Int64.ofInt_mul] using K

theorem z_ineg {x : Int} (n : Nat) (dd : decode M.2.1 pc = .ok (.ineg, 1)) (hn : pc + 1 = n) (k : Z d M mr n L (vI (-x) :: st) h Q) : Z d M mr pc L (vI x :: st) h Q := by
  subst hn
  intro p l e R s m args below meth c D r G H locs ls C0 hG hL hR hS
  have K := k p l e R s m args below meth c D r G H locs ls C0 hG hL hR hS
  refine lv_ineg C0.1 C0.2.1 dd ?_
  simpa only [List.map_cons, zv, Int32.ofInt_neg] using K

theorem z_lneg {x : Int} (n : Nat) (dd : decode M.2.1 pc = .ok (.lneg, 1)) (hn : pc + 1 = n) (k : Z d M mr n L (vJ (-x) :: st) h Q) : Z d M mr pc L (vJ x :: st) h Q := by
  subst hn
  intro p l e R s m args below meth c D r G H locs ls C0 hG hL hR hS
  have K := k p l e R s m args below meth c D r G H locs ls C0 hG hL hR hS
  refine lv_lneg C0.1 C0.2.1 dd ?_
  simpa only [List.map_cons, zv, Int64.ofInt_neg] using K

theorem z_iand {x y : Int} (n : Nat) (dd : decode M.2.1 pc = .ok (.iand, 1)) (hn : pc + 1 = n) (k : Z d M mr n L (vI (zand x y) :: st) h Q) : Z d M mr pc L (vI y :: vI x :: st) h Q := by
  subst hn
  intro p l e R s m args below meth c D r G H locs ls C0 hG hL hR hS
  have K := k p l e R s m args below meth c D r G H locs ls C0 hG hL hR hS
  refine lv_iand C0.1 C0.2.1 dd ?_
  simpa only [List.map_cons, zv, zand, Int32.ofInt_toInt] using K

theorem z_ior {x y : Int} (n : Nat) (dd : decode M.2.1 pc = .ok (.ior, 1)) (hn : pc + 1 = n) (k : Z d M mr n L (vI (zor x y) :: st) h Q) : Z d M mr pc L (vI y :: vI x :: st) h Q := by
  subst hn
  intro p l e R s m args below meth c D r G H locs ls C0 hG hL hR hS
  have K := k p l e R s m args below meth c D r G H locs ls C0 hG hL hR hS
  refine lv_ior C0.1 C0.2.1 dd ?_
  simpa only [List.map_cons, zv, zor, Int32.ofInt_toInt] using K

theorem z_ixor {x y : Int} (n : Nat) (dd : decode M.2.1 pc = .ok (.ixor, 1)) (hn : pc + 1 = n) (k : Z d M mr n L (vI (zxor x y) :: st) h Q) : Z d M mr pc L (vI y :: vI x :: st) h Q := by
  subst hn
  intro p l e R s m args below meth c D r G H locs ls C0 hG hL hR hS
  have K := k p l e R s m args below meth c D r G H locs ls C0 hG hL hR hS
  refine lv_ixor C0.1 C0.2.1 dd ?_
  simpa only [List.map_cons, zv, zxor, Int32.ofInt_toInt] using K

theorem z_ishl {x y : Int} (n : Nat) (dd : decode M.2.1 pc = .ok (.ishl, 1)) (hn : pc + 1 = n) (k : Z d M mr n L (vI (zshl x y) :: st) h Q) : Z d M mr pc L (vI y :: vI x :: st) h Q := by
  subst hn
  intro p l e R s m args below meth c D r G H locs ls C0 hG hL hR hS
  have K := k p l e R s m args below meth c D r G H locs ls C0 hG hL hR hS
  refine lv_ishl C0.1 C0.2.1 dd ?_
  simpa only [List.map_cons, zv, zshl, Int32.ofInt_toInt] using K

theorem z_ishr {x y : Int} (n : Nat) (dd : decode M.2.1 pc = .ok (.ishr, 1)) (hn : pc + 1 = n) (k : Z d M mr n L (vI (zshr x y) :: st) h Q) : Z d M mr pc L (vI y :: vI x :: st) h Q := by
  subst hn
  intro p l e R s m args below meth c D r G H locs ls C0 hG hL hR hS
  have K := k p l e R s m args below meth c D r G H locs ls C0 hG hL hR hS
  refine lv_ishr C0.1 C0.2.1 dd ?_
  simpa only [List.map_cons, zv, zshr, Int32.ofInt_toInt] using K

theorem z_iushr {x y : Int} (n : Nat) (dd : decode M.2.1 pc = .ok (.iushr, 1)) (hn : pc + 1 = n) (k : Z d M mr n L (vI (zushr x y) :: st) h Q) : Z d M mr pc L (vI y :: vI x :: st) h Q := by
  subst hn
  intro p l e R s m args below meth c D r G H locs ls C0 hG hL hR hS
  have K := k p l e R s m args below meth c D r G H locs ls C0 hG hL hR hS
  refine lv_iushr C0.1 C0.2.1 dd rfl ?_
  simpa only [List.map_cons, zv, zushr, Int32.ofInt_toInt] using K

theorem z_land {x y : Int} (n : Nat) (dd : decode M.2.1 pc = .ok (.land, 1)) (hn : pc + 1 = n) (k : Z d M mr n L (vJ (zland x y) :: st) h Q) : Z d M mr pc L (vJ y :: vJ x :: st) h Q := by
  subst hn
  intro p l e R s m args below meth c D r G H locs ls C0 hG hL hR hS
  have K := k p l e R s m args below meth c D r G H locs ls C0 hG hL hR hS
  refine lv_land C0.1 C0.2.1 dd ?_
  simpa only [List.map_cons, zv, zland, Int64.ofInt_toInt] using K

theorem z_lor {x y : Int} (n : Nat) (dd : decode M.2.1 pc = .ok (.lor, 1)) (hn : pc + 1 = n) (k : Z d M mr n L (vJ (zlor x y) :: st) h Q) : Z d M mr pc L (vJ y :: vJ x :: st) h Q := by
  subst hn
  intro p l e R s m args below meth c D r G H locs ls C0 hG hL hR hS
  have K := k p l e R s m args below meth c D r G H locs ls C0 hG hL hR hS
  refine lv_lor C0.1 C0.2.1 dd ?_
  simpa only [List.map_cons, zv, zlor, Int64.ofInt_toInt] using K

theorem z_lshl {x y : Int} (n : Nat) (dd : decode M.2.1 pc = .ok (.lshl, 1)) (hn : pc + 1 = n) (k : Z d M mr n L (vJ (zlshl x y) :: st) h Q) : Z d M mr pc L (vI y :: vJ x :: st) h Q := by
  subst hn
  intro p l e R s m args below meth c D r G H locs ls C0 hG hL hR hS
  have K := k p l e R s m args below meth c D r G H locs ls C0 hG hL hR hS
  refine lv_lshl C0.1 C0.2.1 dd rfl ?_
  simpa only [List.map_cons, zv, zlshl, Int64.ofInt_toInt] using K

theorem z_lushr {x y : Int} (n : Nat) (dd : decode M.2.1 pc = .ok (.lushr, 1)) (hn : pc + 1 = n) (k : Z d M mr n L (vJ (zlushr x y) :: st) h Q) : Z d M mr pc L (vI y :: vJ x :: st) h Q := by
  subst hn
  intro p l e R s m args below meth c D r G H locs ls C0 hG hL hR hS
  have K := k p l e R s m args below meth c D r G H locs ls C0 hG hL hR hS
  refine lv_lushr C0.1 C0.2.1 dd rfl ?_
  simpa only [List.map_cons, zv, zlushr, Int64.ofInt_toInt] using K

theorem z_l2i {x : Int} (n : Nat) (dd : decode M.2.1 pc = .ok (.l2i, 1)) (hn : pc + 1 = n) (k : Z d M mr n L (vI (zl2i x) :: st) h Q) : Z d M mr pc L (vJ x :: st) h Q := by
  subst hn
  intro p l e R s m args below meth c D r G H locs ls C0 hG hL hR hS
  have K := k p l e R s m args below meth c D r G H locs ls C0 hG hL hR hS
  refine lv_l2i C0.1 C0.2.1 dd rfl ?_
  simpa only [List.map_cons, zv, zl2i, Int32.ofInt_toInt] using K

theorem z_i2l {x : Int} (n : Nat) (dd : decode M.2.1 pc = .ok (.i2l, 1)) (hn : pc + 1 = n) (hx : -2147483648 ≤ x ∧ x ≤ 2147483647) (k : Z d M mr n L (vJ x :: st) h Q) : Z d M mr pc L (vI x :: st) h Q := by
  subst hn
  intro p l e R s m args below meth c D r G H locs ls C0 hG hL hR hS
  have K := k p l e R s m args below meth c D r G H locs ls C0 hG hL hR hS
  refine lv_i2l C0.1 C0.2.1 dd (Int32.toInt64_ofInt (by show (-2147483648 : Int) ≤ x; exact hx.1) (by show x ≤ (2147483647 : Int); exact hx.2)) ?_
  simpa only [List.map_cons, zv] using K

theorem z_div {x y : Int} (hx : 0 ≤ x ∧ x ≤ 2147483647) (hy : 0 < y ∧ y ≤ 2147483647) : Int32.ofInt x / Int32.ofInt y = Int32.ofInt (x / y) := by
  have h1 : 0 ≤ x / y := Int.ediv_nonneg hx.1 (by omega)
  have h2 : x / y ≤ x := Int.ediv_le_self y hx.1
  rw [← Int32.toInt_inj, Int32.toInt_div_of_ne_right _ _ (by intro e; have := congrArg Int32.toInt e; rw [z_rng (by omega)] at this; have e1 : (-1 : Int32).toInt = -1 := (by decide); omega), z_rng (by omega), z_rng (by omega), z_rng (by omega), Int.tdiv_eq_ediv_of_nonneg hx.1]
theorem z_rem {x y : Int} (hx : 0 ≤ x ∧ x ≤ 2147483647) (hy : 0 < y ∧ y ≤ 2147483647) : Int32.ofInt x - Int32.ofInt x / Int32.ofInt y * Int32.ofInt y = Int32.ofInt (x % y) := by
  rw [z_div hx hy, ← Int32.ofInt_mul, ← Int32.ofInt_sub, Int.emod_def, Int.mul_comm]
theorem z_divJ {x y : Int} (hx : 0 ≤ x ∧ x ≤ 9223372036854775807) (hy : 0 < y ∧ y ≤ 9223372036854775807) : Int64.ofInt x / Int64.ofInt y = Int64.ofInt (x / y) := by
  have h1 : 0 ≤ x / y := Int.ediv_nonneg hx.1 (by omega)
  have h2 : x / y ≤ x := Int.ediv_le_self y hx.1
  rw [← Int64.toInt_inj, Int64.toInt_div_of_ne_right _ _ (by intro e; have := congrArg Int64.toInt e; rw [z_rngJ (by omega)] at this; have e1 : (-1 : Int64).toInt = -1 := (by decide); omega), z_rngJ (by omega), z_rngJ (by omega), z_rngJ (by omega), Int.tdiv_eq_ediv_of_nonneg hx.1]
theorem z_remJ {x y : Int} (hx : 0 ≤ x ∧ x ≤ 9223372036854775807) (hy : 0 < y ∧ y ≤ 9223372036854775807) : Int64.ofInt x - Int64.ofInt x / Int64.ofInt y * Int64.ofInt y = Int64.ofInt (x % y) := by
  rw [z_divJ hx hy, ← Int64.ofInt_mul, ← Int64.ofInt_sub, Int.emod_def, Int.mul_comm]
theorem z_ne0 {y : Int} (hy : 0 < y ∧ y ≤ 2147483647) : ¬ Int32.ofInt y = 0 := by
  intro e
  have := (z_eq (y := 0) (by omega) (by omega)).mp e
  omega
theorem z_ne0J {y : Int} (hy : 0 < y ∧ y ≤ 9223372036854775807) : ¬ Int64.ofInt y = 0 := by
  intro e
  have := (z_eqJ (y := 0) (by omega) (by omega)).mp e
  omega

theorem z_idiv {x y : Int} (n : Nat) (dd : decode M.2.1 pc = .ok (.idiv, 1)) (hn : pc + 1 = n) (hx : 0 ≤ x ∧ x ≤ 2147483647) (hy : 0 < y ∧ y ≤ 2147483647) (k : Z d M mr n L (vI (x / y) :: st) h Q) : Z d M mr pc L (vI y :: vI x :: st) h Q := by
  subst hn
  intro p l e R s m args below meth c D r G H locs ls C0 hG hL hR hS
  have K := k p l e R s m args below meth c D r G H locs ls C0 hG hL hR hS
  refine lv_idiv C0.1 C0.2.1 dd (z_ne0 hy) ?_
  simpa only [List.map_cons, zv, z_div hx hy] using K

theorem z_irem {x y : Int} (n : Nat) (dd : decode M.2.1 pc = .ok (.irem, 1)) (hn : pc + 1 = n) (hx : 0 ≤ x ∧ x ≤ 2147483647) (hy : 0 < y ∧ y ≤ 2147483647) (k : Z d M mr n L (vI (x % y) :: st) h Q) : Z d M mr pc L (vI y :: vI x :: st) h Q := by
  subst hn
  intro p l e R s m args below meth c D r G H locs ls C0 hG hL hR hS
  have K := k p l e R s m args below meth c D r G H locs ls C0 hG hL hR hS
  refine lv_irem C0.1 C0.2.1 dd (z_ne0 hy) ?_
  simpa only [List.map_cons, zv, z_rem hx hy] using K

theorem z_ldiv {x y : Int} (n : Nat) (dd : decode M.2.1 pc = .ok (.ldiv, 1)) (hn : pc + 1 = n) (hx : 0 ≤ x ∧ x ≤ 9223372036854775807) (hy : 0 < y ∧ y ≤ 9223372036854775807) (k : Z d M mr n L (vJ (x / y) :: st) h Q) : Z d M mr pc L (vJ y :: vJ x :: st) h Q := by
  subst hn
  intro p l e R s m args below meth c D r G H locs ls C0 hG hL hR hS
  have K := k p l e R s m args below meth c D r G H locs ls C0 hG hL hR hS
  refine lv_ldiv C0.1 C0.2.1 dd (z_ne0J hy) ?_
  simpa only [List.map_cons, zv, z_divJ hx hy] using K

theorem z_lrem {x y : Int} (n : Nat) (dd : decode M.2.1 pc = .ok (.lrem, 1)) (hn : pc + 1 = n) (hx : 0 ≤ x ∧ x ≤ 9223372036854775807) (hy : 0 < y ∧ y ≤ 9223372036854775807) (k : Z d M mr n L (vJ (x % y) :: st) h Q) : Z d M mr pc L (vJ y :: vJ x :: st) h Q := by
  subst hn
  intro p l e R s m args below meth c D r G H locs ls C0 hG hL hR hS
  have K := k p l e R s m args below meth c D r G H locs ls C0 hG hL hR hS
  refine lv_lrem C0.1 C0.2.1 dd (z_ne0J hy) ?_
  simpa only [List.map_cons, zv, z_remJ hx hy] using K

def zcmp (x y : Int) : Int := if y < x then 1 else if x = y then 0 else -1
theorem z_lcmp {x y : Int} (n : Nat) (dd : decode M.2.1 pc = .ok (.lcmp, 1)) (hn : pc + 1 = n) (hx : -9223372036854775808 ≤ x ∧ x ≤ 9223372036854775807) (hy : -9223372036854775808 ≤ y ∧ y ≤ 9223372036854775807) (k : Z d M mr n L (vI (zcmp x y) :: st) h Q) : Z d M mr pc L (vJ y :: vJ x :: st) h Q := by
  subst hn
  intro p l e R s m args below meth c D r G H locs ls C0 hG hL hR hS
  have K := k p l e R s m args below meth c D r G H locs ls C0 hG hL hR hS
  refine W.lcmp C0.1 C0.2.1 dd ?_
  have e : lg_cmp (Int64.ofInt x) (Int64.ofInt y) = Int32.ofInt (zcmp x y) := by
    unfold lg_cmp zcmp
    have e1 : (Int64.ofInt x > Int64.ofInt y) ↔ y < x := z_ltJ hy hx
    by_cases h1 : y < x
    · rw [if_pos (e1.mpr h1), if_pos h1]; rfl
    · rw [if_neg (fun q => h1 (e1.mp q)), if_neg h1]
      by_cases h2 : x = y
      · rw [if_pos ((z_eqJ hx hy).mpr h2), if_pos h2]; rfl
      · rw [if_neg (fun q => h2 ((z_eqJ hx hy).mp q)), if_neg h2]; rfl
  rw [e]
  exact K

theorem z_icmp_lt {x y off : Int} (tgt n : Nat) (dd : decode M.2.1 pc = .ok (.if_icmp .lt off, 3)) (htg : (pc : Int) + off = (tgt : Int)) (hn : pc + 3 = n) (hx : -2147483648 ≤ x ∧ x ≤ 2147483647) (hy : -2147483648 ≤ y ∧ y ≤ 2147483647) (ht : x < y → Z d M mr tgt L st h Q) (hf : y ≤ x → Z d M mr n L st h Q) : Z d M mr pc L (vI y :: vI x :: st) h Q := by
  subst hn
  intro p l e R s m args below meth c D r G H locs ls C0 hG hL hR hS
  refine lv_icmp_lt C0.1 C0.2.1 dd htg (fun q => ?_) (fun q => ?_)
  · exact (ht ((z_lt hx hy).mp q)) p l e R s m args below meth c D r G H locs ls C0 hG hL hR hS
  · exact (hf (Int.not_lt.mp (fun e => q ((z_lt hx hy).mpr e)))) p l e R s m args below meth c D r G H locs ls C0 hG hL hR hS

theorem z_if_lt {x off : Int} (tgt n : Nat) (dd : decode M.2.1 pc = .ok (.ifCond .lt off, 3)) (htg : (pc : Int) + off = (tgt : Int)) (hn : pc + 3 = n) (hx : -2147483648 ≤ x ∧ x ≤ 2147483647) (ht : x < 0 → Z d M mr tgt L st h Q) (hf : 0 ≤ x → Z d M mr n L st h Q) : Z d M mr pc L (vI x :: st) h Q := by
  subst hn
  intro p l e R s m args below meth c D r G H locs ls C0 hG hL hR hS
  refine lv_if_lt C0.1 C0.2.1 dd htg (fun q => ?_) (fun q => ?_)
  · exact (ht ((z_lt (y := 0) hx (by omega)).mp q)) p l e R s m args below meth c D r G H locs ls C0 hG hL hR hS
  · exact (hf (Int.not_lt.mp (fun e => q ((z_lt (y := 0) hx (by omega)).mpr e)))) p l e R s m args below meth c D r G H locs ls C0 hG hL hR hS

theorem z_icmp_ge {x y off : Int} (tgt n : Nat) (dd : decode M.2.1 pc = .ok (.if_icmp .ge off, 3)) (htg : (pc : Int) + off = (tgt : Int)) (hn : pc + 3 = n) (hx : -2147483648 ≤ x ∧ x ≤ 2147483647) (hy : -2147483648 ≤ y ∧ y ≤ 2147483647) (ht : y ≤ x → Z d M mr tgt L st h Q) (hf : x < y → Z d M mr n L st h Q) : Z d M mr pc L (vI y :: vI x :: st) h Q := by
  subst hn
  intro p l e R s m args below meth c D r G H locs ls C0 hG hL hR hS
  refine lv_icmp_ge C0.1 C0.2.1 dd htg (fun q => ?_) (fun q => ?_)
  · exact (ht ((z_le hy hx).mp q)) p l e R s m args below meth c D r G H locs ls C0 hG hL hR hS
  · exact (hf (Int.not_le.mp (fun e => q ((z_le hy hx).mpr e)))) p l e R s m args below meth c D r G H locs ls C0 hG hL hR hS

theorem z_if_ge {x off : Int} (tgt n : Nat) (dd : decode M.2.1 pc = .ok (.ifCond .ge off, 3)) (htg : (pc : Int) + off = (tgt : Int)) (hn : pc + 3 = n) (hx : -2147483648 ≤ x ∧ x ≤ 2147483647) (ht : 0 ≤ x → Z d M mr tgt L st h Q) (hf : x < 0 → Z d M mr n L st h Q) : Z d M mr pc L (vI x :: st) h Q := by
  subst hn
  intro p l e R s m args below meth c D r G H locs ls C0 hG hL hR hS
  refine lv_if_ge C0.1 C0.2.1 dd htg (fun q => ?_) (fun q => ?_)
  · exact (ht ((z_le (x := 0) (by omega) hx).mp q)) p l e R s m args below meth c D r G H locs ls C0 hG hL hR hS
  · exact (hf (Int.not_le.mp (fun e => q ((z_le (x := 0) (by omega) hx).mpr e)))) p l e R s m args below meth c D r G H locs ls C0 hG hL hR hS

theorem z_icmp_gt {x y off : Int} (tgt n : Nat) (dd : decode M.2.1 pc = .ok (.if_icmp .gt off, 3)) (htg : (pc : Int) + off = (tgt : Int)) (hn : pc + 3 = n) (hx : -2147483648 ≤ x ∧ x ≤ 2147483647) (hy : -2147483648 ≤ y ∧ y ≤ 2147483647) (ht : y < x → Z d M mr tgt L st h Q) (hf : x ≤ y → Z d M mr n L st h Q) : Z d M mr pc L (vI y :: vI x :: st) h Q := by
  subst hn
  intro p l e R s m args below meth c D r G H locs ls C0 hG hL hR hS
  refine lv_icmp_gt C0.1 C0.2.1 dd htg (fun q => ?_) (fun q => ?_)
  · exact (ht ((z_lt hy hx).mp q)) p l e R s m args below meth c D r G H locs ls C0 hG hL hR hS
  · exact (hf (Int.not_lt.mp (fun e => q ((z_lt hy hx).mpr e)))) p l e R s m args below meth c D r G H locs ls C0 hG hL hR hS

theorem z_if_gt {x off : Int} (tgt n : Nat) (dd : decode M.2.1 pc = .ok (.ifCond .gt off, 3)) (htg : (pc : Int) + off = (tgt : Int)) (hn : pc + 3 = n) (hx : -2147483648 ≤ x ∧ x ≤ 2147483647) (ht : 0 < x → Z d M mr tgt L st h Q) (hf : x ≤ 0 → Z d M mr n L st h Q) : Z d M mr pc L (vI x :: st) h Q := by
  subst hn
  intro p l e R s m args below meth c D r G H locs ls C0 hG hL hR hS
  refine lv_if_gt C0.1 C0.2.1 dd htg (fun q => ?_) (fun q => ?_)
  · exact (ht ((z_lt (x := 0) (by omega) hx).mp q)) p l e R s m args below meth c D r G H locs ls C0 hG hL hR hS
  · exact (hf (Int.not_lt.mp (fun e => q ((z_lt (x := 0) (by omega) hx).mpr e)))) p l e R s m args below meth c D r G H locs ls C0 hG hL hR hS

theorem z_icmp_le {x y off : Int} (tgt n : Nat) (dd : decode M.2.1 pc = .ok (.if_icmp .le off, 3)) (htg : (pc : Int) + off = (tgt : Int)) (hn : pc + 3 = n) (hx : -2147483648 ≤ x ∧ x ≤ 2147483647) (hy : -2147483648 ≤ y ∧ y ≤ 2147483647) (ht : x ≤ y → Z d M mr tgt L st h Q) (hf : y < x → Z d M mr n L st h Q) : Z d M mr pc L (vI y :: vI x :: st) h Q := by
  subst hn
  intro p l e R s m args below meth c D r G H locs ls C0 hG hL hR hS
  refine lv_icmp_le C0.1 C0.2.1 dd htg (fun q => ?_) (fun q => ?_)
  · exact (ht ((z_le hx hy).mp q)) p l e R s m args below meth c D r G H locs ls C0 hG hL hR hS
  · exact (hf (Int.not_le.mp (fun e => q ((z_le hx hy).mpr e)))) p l e R s m args below meth c D r G H locs ls C0 hG hL hR hS

theorem z_if_le {x off : Int} (tgt n : Nat) (dd : decode M.2.1 pc = .ok (.ifCond .le off, 3)) (htg : (pc : Int) + off = (tgt : Int)) (hn : pc + 3 = n) (hx : -2147483648 ≤ x ∧ x ≤ 2147483647) (ht : x ≤ 0 → Z d M mr tgt L st h Q) (hf : 0 < x → Z d M mr n L st h Q) : Z d M mr pc L (vI x :: st) h Q := by
  subst hn
  intro p l e R s m args below meth c D r G H locs ls C0 hG hL hR hS
  refine lv_if_le C0.1 C0.2.1 dd htg (fun q => ?_) (fun q => ?_)
  · exact (ht ((z_le (y := 0) hx (by omega)).mp q)) p l e R s m args below meth c D r G H locs ls C0 hG hL hR hS
  · exact (hf (Int.not_le.mp (fun e => q ((z_le (y := 0) hx (by omega)).mpr e)))) p l e R s m args below meth c D r G H locs ls C0 hG hL hR hS

theorem z_icmp_eq {x y off : Int} (tgt n : Nat) (dd : decode M.2.1 pc = .ok (.if_icmp .eq off, 3)) (htg : (pc : Int) + off = (tgt : Int)) (hn : pc + 3 = n) (hx : -2147483648 ≤ x ∧ x ≤ 2147483647) (hy : -2147483648 ≤ y ∧ y ≤ 2147483647) (ht : x = y → Z d M mr tgt L st h Q) (hf : x ≠ y → Z d M mr n L st h Q) : Z d M mr pc L (vI y :: vI x :: st) h Q := by
  subst hn
  intro p l e R s m args below meth c D r G H locs ls C0 hG hL hR hS
  refine lv_icmp_eq C0.1 C0.2.1 dd htg (fun q => ?_) (fun q => ?_)
  · exact (ht ((z_eq hx hy).mp q)) p l e R s m args below meth c D r G H locs ls C0 hG hL hR hS
  · exact (hf ( (fun e => q ((z_eq hx hy).mpr e)))) p l e R s m args below meth c D r G H locs ls C0 hG hL hR hS

theorem z_if_eq {x off : Int} (tgt n : Nat) (dd : decode M.2.1 pc = .ok (.ifCond .eq off, 3)) (htg : (pc : Int) + off = (tgt : Int)) (hn : pc + 3 = n) (hx : -2147483648 ≤ x ∧ x ≤ 2147483647) (ht : x = 0 → Z d M mr tgt L st h Q) (hf : x ≠ 0 → Z d M mr n L st h Q) : Z d M mr pc L (vI x :: st) h Q := by
  subst hn
  intro p l e R s m args below meth c D r G H locs ls C0 hG hL hR hS
  refine lv_if_eq C0.1 C0.2.1 dd htg (fun q => ?_) (fun q => ?_)
  · exact (ht ((z_eq (y := 0) hx (by omega)).mp q)) p l e R s m args below meth c D r G H locs ls C0 hG hL hR hS
  · exact (hf ( (fun e => q ((z_eq (y := 0) hx (by omega)).mpr e)))) p l e R s m args below meth c D r G H locs ls C0 hG hL hR hS

theorem z_icmp_ne {x y off : Int} (tgt n : Nat) (dd : decode M.2.1 pc = .ok (.if_icmp .ne off, 3)) (htg : (pc : Int) + off = (tgt : Int)) (hn : pc + 3 = n) (hx : -2147483648 ≤ x ∧ x ≤ 2147483647) (hy : -2147483648 ≤ y ∧ y ≤ 2147483647) (ht : x ≠ y → Z d M mr tgt L st h Q) (hf : x = y → Z d M mr n L st h Q) : Z d M mr pc L (vI y :: vI x :: st) h Q := by
  subst hn
  intro p l e R s m args below meth c D r G H locs ls C0 hG hL hR hS
  refine lv_icmp_ne C0.1 C0.2.1 dd htg (fun q => ?_) (fun q => ?_)
  · exact (ht (fun e => q ((z_eq hx hy).mpr e))) p l e R s m args below meth c D r G H locs ls C0 hG hL hR hS
  · exact (hf ((z_eq hx hy).mp q)) p l e R s m args below meth c D r G H locs ls C0 hG hL hR hS

theorem z_if_ne {x off : Int} (tgt n : Nat) (dd : decode M.2.1 pc = .ok (.ifCond .ne off, 3)) (htg : (pc : Int) + off = (tgt : Int)) (hn : pc + 3 = n) (hx : -2147483648 ≤ x ∧ x ≤ 2147483647) (ht : x ≠ 0 → Z d M mr tgt L st h Q) (hf : x = 0 → Z d M mr n L st h Q) : Z d M mr pc L (vI x :: st) h Q := by
  subst hn
  intro p l e R s m args below meth c D r G H locs ls C0 hG hL hR hS
  refine lv_if_ne C0.1 C0.2.1 dd htg (fun q => ?_) (fun q => ?_)
  · exact (ht (fun e => q ((z_eq (y := 0) hx (by omega)).mpr e))) p l e R s m args below meth c D r G H locs ls C0 hG hL hR hS
  · exact (hf ((z_eq (y := 0) hx (by omega)).mp q)) p l e R s m args below meth c D r G H locs ls C0 hG hL hR hS

theorem z_goto {off : Int} (tgt : Nat) (dd : decode M.2.1 pc = .ok (.goto off, 3)) (htg : (pc : Int) + off = (tgt : Int)) (k : Z d M mr tgt L st h Q) : Z d M mr pc L st h Q := by
  intro p l e R s m args below meth c D r G H locs ls C0 hG hL hR hS
  exact lv_goto C0.1 C0.2.1 dd htg (k p l e R s m args below meth c D r G H locs ls C0 hG hL hR hS)
theorem z_ifnull {a : Nat} {off : Int} (n : Nat) (dd : decode M.2.1 pc = .ok (.ifnull off, 3)) (hn : pc + 3 = n) (k : Z d M mr n L st h Q) : Z d M mr pc L (vR a :: st) h Q := by
  subst hn
  intro p l e R s m args below meth c D r G H locs ls C0 hG hL hR hS
  have K := k p l e R s m args below meth c D r G H locs ls C0 hG hL hR hS
  exact lv_ifnull C0.1 C0.2.1 dd K
theorem z_ifnullN {off : Int} (tgt : Nat) (dd : decode M.2.1 pc = .ok (.ifnull off, 3)) (htg : (pc : Int) + off = (tgt : Int)) (k : Z d M mr tgt L st h Q) : Z d M mr pc L (vN :: st) h Q := by
  intro p l e R s m args below meth c D r G H locs ls C0 hG hL hR hS
  exact lv_ifnullN C0.1 C0.2.1 dd htg (k p l e R s m args below meth c D r G H locs ls C0 hG hL hR hS)
theorem z_tableIn {dflt lo hi off x : Int} {offs : Array Int} {len : Nat} (tgt : Nat) (dd : decode M.2.1 pc = .ok (.tableswitch dflt lo hi offs, len)) (hx : -2147483648 ≤ x ∧ x ≤ 2147483647) (h1 : lo ≤ x) (h2 : x ≤ hi) (ho : offs[(x - lo).toNat]? = some off) (htg : (pc : Int) + off = (tgt : Int)) (k : Z d M mr tgt L st h Q) : Z d M mr pc L (vI x :: st) h Q := by
  intro p l e R s m args below meth c D r G H locs ls C0 hG hL hR hS
  exact lv_tableIn C0.1 C0.2.1 dd (by rw [z_rng hx]; omega) (by rw [z_rng hx]; omega) (by rw [z_rng hx]; exact ho) htg (k p l e R s m args below meth c D r G H locs ls C0 hG hL hR hS)
theorem z_tableOut {dflt lo hi x : Int} {offs : Array Int} {len : Nat} (tgt : Nat) (dd : decode M.2.1 pc = .ok (.tableswitch dflt lo hi offs, len)) (hx : -2147483648 ≤ x ∧ x ≤ 2147483647) (h1 : x < lo ∨ hi < x) (htg : (pc : Int) + dflt = (tgt : Int)) (k : Z d M mr tgt L st h Q) : Z d M mr pc L (vI x :: st) h Q := by
  intro p l e R s m args below meth c D r G H locs ls C0 hG hL hR hS
  exact lv_tableOut C0.1 C0.2.1 dd (by rw [z_rng hx]; exact h1) htg (k p l e R s m args below meth c D r G H locs ls C0 hG hL hR hS)
theorem z_lookup {dflt off x : Int} {ps : Array (Int × Int)} {len : Nat} (tgt : Nat) (dd : decode M.2.1 pc = .ok (.lookupswitch dflt ps, len)) (hp : (ps.toList.zip (ps.toList.drop 1)).all (fun (a, next) => a.1 < next.1) = true) (hx : -2147483648 ≤ x ∧ x ≤ 2147483647) (ho : Op.lookupswitch.offset ps.toList dflt x = off) (htg : (pc : Int) + off = (tgt : Int)) (k : Z d M mr tgt L st h Q) : Z d M mr pc L (vI x :: st) h Q := by
  intro p l e R s m args below meth c D r G H locs ls C0 hG hL hR hS
  exact lv_lookup C0.1 C0.2.1 dd hp (by rw [z_rng hx]; exact ho) htg (k p l e R s m args below meth c D r G H locs ls C0 hG hL hR hS)
theorem z_ret {x : Int} (dd : decode M.2.1 pc = .ok (.ireturn, 1)) (hf : zfit M.2.2.2 (some (vI x))) (hc : mr.2.2.1 ≤ mr.1 ∧ mr.2.2.2 ≤ mr.2.1) (k : Q (some (vI x)) h) : Z d M mr pc L [vI x] h Q := by
  intro p l e R s m args below meth c D r G H locs ls C0 hG hL hR hS
  exact W.widen hc.1 hc.2 (hG (some (vI x)) h H locs ls pc dd hf k hR hS)
theorem z_lret {x : Int} (dd : decode M.2.1 pc = .ok (.lreturn, 1)) (hf : zfit M.2.2.2 (some (vJ x))) (hc : mr.2.2.1 ≤ mr.1 ∧ mr.2.2.2 ≤ mr.2.1) (k : Q (some (vJ x)) h) : Z d M mr pc L [vJ x] h Q := by
  intro p l e R s m args below meth c D r G H locs ls C0 hG hL hR hS
  exact W.widen hc.1 hc.2 (hG (some (vJ x)) h H locs ls pc dd hf k hR hS)
theorem z_aret {x : Option Nat} (dd : decode M.2.1 pc = .ok (.areturn, 1)) (hf : zfit M.2.2.2 (some (.inr (.inr x)))) (hc : mr.2.2.1 ≤ mr.1 ∧ mr.2.2.2 ≤ mr.2.1) (k : Q (some (.inr (.inr x))) h) : Z d M mr pc L [.inr (.inr x)] h Q := by
  intro p l e R s m args below meth c D r G H locs ls C0 hG hL hR hS
  exact W.widen hc.1 hc.2 (hG (some (.inr (.inr x))) h H locs ls pc dd hf k hR hS)
theorem z_vret (dd : decode M.2.1 pc = .ok (.return_, 1)) (hf : zfit M.2.2.2 none) (hc : mr.2.2.1 ≤ mr.1 ∧ mr.2.2.2 ≤ mr.2.1) (k : Q none h) : Z d M mr pc L [] h Q := by
  intro p l e R s m args below meth c D r G H locs ls C0 hG hL hR hS
  exact W.widen hc.1 hc.2 (hG none h H locs ls pc dd hf k hR hS)
/-- fewer locals are known -/
theorem z_sub {L' : List (Option zV)} (hs : ∀ (i : Nat) (v : zV), L'[i]? = some (some v) → L[i]? = some (some v)) (k : Z d M mr pc L' st h Q) : Z d M mr pc L st h Q := by
  intro p l e R s m args below meth c D r G H locs ls C0 hG hL hR hS
  exact k p l e R s m args below meth c D r G H locs ls C0 hG ⟨hL.1, hL.2.1, fun i v hi => hL.2.2 i v (hs i v hi)⟩ hR hS
end ZROWS
end
section
/-! ROWS OF THE ABSTRACT MACHINE: fields, arrays, new cells -/
theorem zx_in {i : Int} {n : Nat} (h : 0 ≤ i ∧ i < n) (hn : n < 2147483648) : vp_in (Int32.ofInt i) n := by
  rw [vp_in_iff, z_rng (by omega)]
  exact h
theorem zx_cl {i : Int} (h : 0 ≤ i ∧ i ≤ 2147483647) : (Int32.ofInt i).toNatClampNeg = i.toNat := Int32.toNatClampNeg_ofInt_of_le (by omega) (by omega)
def zst (f : Int → Int) (i x : Int) : Int → Int := fun j => if j = i then x else f j
def zstR (f : Int → Option Nat) (i : Int) (x : Option Nat) : Int → Option Nat := fun j => if j = i then x else f j
theorem zst_same (f : Int → Int) (i x : Int) : zst f i x i = x := by simp [zst]
theorem zst_ne (f : Int → Int) {i j : Int} (x : Int) (h : j ≠ i) : zst f i x j = f j := by simp [zst, h]
theorem zRel.lab {U : State} {D : va_G} {r : Nat → Nat} {h : zH} {H : Heap} (k : zRel U D r h H) {a : Nat} {c : zE} (ha : h.1 a = some c) : zat U D r (r a) c H := (k.1 a c ha).2
theorem zA_lab {r : Nat → Nat} {a : Nat} (h : 2 ≤ a) : zA r (r a) := ⟨a, h, rfl⟩
/-- contents count only within their length -/
theorem zat_ext {U : State} {D : va_G} {r : Nat → Nat} {a k n : Nat} {f g : Int → Int} {H : Heap} (h : zat U D r a (.inr (.inl (k, n, f))) H) (e : ∀ i : Int, 0 ≤ i → i < n → f i = g i) : zat U D r a (.inr (.inl (k, n, g))) H := by
  obtain ⟨cA, h1, h2, h3⟩ := h
  refine ⟨cA, h1, h2, ?_⟩
  rw [h3]
  have key : ∀ (F G : Nat → Value), (∀ j : Nat, j < n → F j = G j) → arrV cA n F = arrV cA n G := by
    intro F G hFG
    unfold arrV
    congr 1
    exact congrArg Array.ofFn (funext fun j => hFG j.val j.isLt)
  match k with
  | 0 => exact congrArg some (key (fun j => .int (Int32.ofInt (f j))) (fun j => .int (Int32.ofInt (g j))) (fun j hj => congrArg (fun z => Value.int (Int32.ofInt z)) (e j (by omega) (by omega))))
  | 1 => exact congrArg some (key (fun j => .long (Int64.ofInt (f j))) (fun j => .long (Int64.ofInt (g j))) (fun j hj => congrArg (fun z => Value.long (Int64.ofInt z)) (e j (by omega) (by omega))))
  | k + 2 => exact congrArg some (key (fun j => .int (Int32.ofInt (f j))) (fun j => .int (Int32.ofInt (g j))) (fun j hj => congrArg (fun z => Value.int (Int32.ofInt z)) (e j (by omega) (by omega))))
section ZHEAP
variable {d : Nat} {M : zM} {mr : zK} {pc : Nat} {L : List (Option zV)} {st : List zV} {h : zH} {Q : Option zV → zH → Prop}
/-- a heap that is the same as far as it counts -/
theorem z_ext {a k n : Nat} {f g : Int → Int} (ha : h.1 a = some (.inr (.inl (k, n, f)))) (e : ∀ i : Int, 0 ≤ i → i < n → f i = g i) (kk : Z d M mr pc L st (zup h a (.inr (.inl (k, n, g)))) Q) : Z d M mr pc L st h Q := by
  intro p l e' R s m args below meth c D r G H locs ls C0 hG hL hR hS
  exact kk p l e' R s m args below meth c D r G H locs ls C0 hG hL (hR.put ha (zat_ext (hR.lab ha) e) rfl (fun _ _ => rfl)) hS
theorem z_getf {a ci idx N : Nat} {fs : List zV} {v : zV} {C : String} {T : u_T} (n : Nat) (dd : decode M.2.1 pc = .ok (.getfield idx, 3)) (hn : pc + 3 = n) (hc : vwCl[ci]? = some (C, T, N)) (hi : ∀ w ∈ u_ws C T N, w ∈ zW) (k : Nat) (hk : k < N) (hw : Cond.fieldLink M.1.cls idx (T k).1 (T k).2.1 (T k).2.2.1 ∈ zW) (ha : h.1 a = some (zO ci fs)) (hv : fs[k]? = some v) (kk : Z d M mr n L (v :: st) h Q) : Z d M mr pc L (vR a :: st) h Q := by
  subst hn
  intro p l e R s m args below meth c D r G H locs ls C0 hG hL hR hS
  have K := kk p l e R s m args below meth c D r G H locs ls C0 hG hL hR hS
  have hP : va_P D vwCl [(r a, .inr (ci, fs.map (zv r)))] H := fun j q hq => by
    match j, hq with
    | 0, hq => cases hq; exact hR.lab ha
    | j + 1, hq => simp at hq
  exact va_get C0.1 C0.2.1 C0.2.2.2.2.1 hi C0.2.2.2.1 C0.2.2.2.2.2.1.1 hP 0 rfl hc k hk (C0.2.2.2.2.1 _ hw) (fun _ q => q) (by rw [List.getElem?_map, hv]; rfl) dd K
theorem z_putf {a ci idx N : Nat} {fs : List zV} {v : zV} {C : String} {T : u_T} {ty : Nat → FieldType} (n : Nat) (dd : decode M.2.1 pc = .ok (.putfield idx, 3)) (hn : pc + 3 = n) (hc : vwCl[ci]? = some (C, T, N)) (hi : ∀ w ∈ u_ws C T N, w ∈ zW) (hty : ∀ k, k < N → parseFieldDescriptor (T k).2.2.1 = some (ty k)) (hnm : ∀ a, a < N → ∀ b, b < N → a ≠ b → (T a).2.1 ≠ (T b).2.1) (k : Nat) (hk : k < N) (hw : Cond.fieldLink M.1.cls idx (T k).1 (T k).2.1 (T k).2.2.1 ∈ zW) (hfin : (T k).2.2.2 = false) (hft : ∀ r : Nat → Nat, narrow (ty k) (zv r v) = zv r v ∧ fits (ty k) (zv r v) = true) (h2 : 2 ≤ a) (ha : h.1 a = some (zO ci fs)) (hl : k < fs.length) (kk : Z d M mr n L st (zup h a (zO ci (fs.set k v))) Q) : Z d M mr pc L (v :: vR a :: st) h Q := by
  subst hn
  intro p l e R s m args below meth c D r G H locs ls C0 hG hL hR hS
  have hts := C0.2.2.2.2.1
  have hK := C0.2.2.2.2.2.1.1
  have hap := va_apart (own := M.1.cls) hts hi ty hty hnm hK hc
  obtain ⟨r', h1, cell, q1, q2, q3, q4⟩ := hR.lab ha
  have hr : r' = (C, T, N) := Option.some.inj (h1.symm.trans hc)
  subst hr
  obtain ⟨hSl, hfc, kC, hkC, hkind⟩ := hK.1 ci _ hc
  obtain ⟨cf, kf, fi, f, hif, hsl⟩ := hSl k hk
  have hlay := hts _ (hi _ (u_in_lay hk))
  unfold u_lay at hlay
  rw [if_neg (by rw [hfin]; decide)] at hlay
  have hst := (u_facts hfc hkC (u_lays hts hi hk) hif).1
  have h6 := u_store hfc hkC hkind hlay hif (hty k hk) (hft r).1 (hft r).2
  refine W.putK C0.1 C0.2.1 (f := f) ⟨C0.2.2.2.1, hts _ hw, ⟨_, _, _, hif⟩, hst⟩ (by rw [q2]; exact h6) q1 q3 (by rw [hsl]; exact k2_hasslot (q4 k hk)) rfl rfl dd fun H' e1 e2 e3 => ?_
  rw [hsl] at e1 ⊢
  refine kk p l e R s m args below meth c D r G H' _ ls C0 hG hL (hR.put ha ?_ e2 e3) (hS.put e2 e3 (zA_lab h2))
  refine ⟨_, hc, t_OB.to (V := updV (vp_V (fs.map (zv r))) k (zv r v)) ⟨_, e1, q2, q3, t_set q4 hap hk (zv r v)⟩ (fun j _ => ?_)⟩
  rw [vp_updV_set (by rw [List.length_map]; exact hl), ← List.map_set]
theorem z_putF {a ci idx N : Nat} {fs : List zV} {v : zV} {C : String} {T : u_T} {ty : Nat → FieldType} (n : Nat) (dd : decode M.2.1 pc = .ok (.putfield idx, 3)) (hn : pc + 3 = n) (hc : vwCl[ci]? = some (C, T, N)) (hi : ∀ w ∈ u_ws C T N, w ∈ zW) (hty : ∀ k, k < N → parseFieldDescriptor (T k).2.2.1 = some (ty k)) (hnm : ∀ a, a < N → ∀ b, b < N → a ≠ b → (T a).2.1 ≠ (T b).2.1) (k : Nat) (hk : k < N) (hw : Cond.fieldLink M.1.cls idx (T k).1 (T k).2.1 (T k).2.2.1 ∈ zW) (hfin : (T k).2.2.2 = true) (hini : M.1.name = "<init>") (hdecl : (T k).1 = M.1.cls) (hft : ∀ r : Nat → Nat, narrow (ty k) (zv r v) = zv r v ∧ fits (ty k) (zv r v) = true) (h2 : 2 ≤ a) (ha : h.1 a = some (zO ci fs)) (hl : k < fs.length) (kk : Z d M mr n L st (zup h a (zO ci (fs.set k v))) Q) : Z d M mr pc L (v :: vR a :: st) h Q := by
  subst hn
  intro p l e R s m args below meth c D r G H locs ls C0 hG hL hR hS
  have hts := C0.2.2.2.2.1
  have hK := C0.2.2.2.2.2.1.1
  have hown := C0.2.2.2.1
  have hap := va_apart (own := M.1.cls) hts hi ty hty hnm hK hc
  obtain ⟨r', h1, cell, q1, q2, q3, q4⟩ := hR.lab ha
  have hr : r' = (C, T, N) := Option.some.inj (h1.symm.trans hc)
  subst hr
  obtain ⟨hSl, hfc, kC, hkC, hkind⟩ := hK.1 ci _ hc
  obtain ⟨cf, kf, fi, f, hif, hsl⟩ := hSl k hk
  have hlay := hts _ (hi _ (u_in_lay hk))
  unfold u_lay at hlay
  rw [if_pos hfin] at hlay
  have hst := (u_facts hfc hkC (u_lays hts hi hk) hif).1
  have hcf : m.cls = cf := by
    obtain ⟨_, _, c', _, _, _, -, -, hf', -, -, -, hown2, -⟩ := Cond.laysFinal_spec hlay
    have e1 : c' = cf := by have := hif.symm.trans hf'; simp at this; exact this.1.symm
    rw [hdecl] at hown2
    rw [← e1]; exact Option.some.inj (hown.symm.trans hown2)
  have h6 := u_fits hfc hkC hkind (Or.inr hlay) hif (hty k hk) (hft r).1 (hft r).2
  refine W.putFinK C0.1 C0.2.1 hown (hts _ hw) hif hst hcf (by rw [C0.2.2.2.2.2.2.1]; exact hini) (by rw [q2]; exact h6) q1 q3 (by rw [hsl]; exact k2_hasslot (q4 k hk)) rfl rfl dd fun H' e1 e2 e3 => ?_
  rw [hsl] at e1 ⊢
  refine kk p l e R s m args below meth c D r G H' _ ls C0 hG hL (hR.put ha ?_ e2 e3) (hS.put e2 e3 (zA_lab h2))
  refine ⟨_, hc, t_OB.to (V := updV (vp_V (fs.map (zv r))) k (zv r v)) ⟨_, e1, q2, q3, t_set q4 hap hk (zv r v)⟩ (fun j _ => ?_)⟩
  rw [vp_updV_set (by rw [List.length_map]; exact hl), ← List.map_set]
theorem zidx {i : Int} {n : Nat} (h : 0 ≤ i ∧ i < n) (hn : n < 2147483648) : ((Int32.ofInt i).toNatClampNeg : Int) = i ∧ (Int32.ofInt i).toNatClampNeg < n := by
  rw [zx_cl (by omega)]
  omega
theorem z_iald {a N : Nat} {f : Int → Int} {i : Int} (n : Nat) (dd : decode M.2.1 pc = .ok (.iaload, 1)) (hn : pc + 1 = n) (ha : h.1 a = some (zI N f)) (hN : N < 2147483648) (hi : 0 ≤ i ∧ i < N) (kk : Z d M mr n L (vI (f i) :: st) h Q) : Z d M mr pc L (vI i :: vR a :: st) h Q := by
  subst hn
  intro p l e R s m args below meth c D r G H locs ls C0 hG hL hR hS
  have K := kk p l e R s m args below meth c D r G H locs ls C0 hG hL hR hS
  obtain ⟨cA, h1, h2, h3⟩ := hR.lab ha
  have hz := zx_in hi hN
  obtain ⟨e1, e2⟩ := zidx hi hN
  refine W.iald (v := .int (Int32.ofInt (f i))) C0.1 C0.2.1 h3 (h1 N (fun j => .int (Int32.ofInt (f j)))) (fun q => by cases q) (by show ¬ (_ ∨ (arrV _ _ _).slots.size ≤ _); rw [arrV_size]; exact hz) (by show (arrV _ _ _).slots[_]? = _; rw [arrV_read _ _ e2]; dsimp only; rw [e1]) rfl rfl dd K
theorem z_lald {a N : Nat} {f : Int → Int} {i : Int} (n : Nat) (dd : decode M.2.1 pc = .ok (.laload, 1)) (hn : pc + 1 = n) (ha : h.1 a = some (zJ N f)) (hN : N < 2147483648) (hi : 0 ≤ i ∧ i < N) (kk : Z d M mr n L (vJ (f i) :: st) h Q) : Z d M mr pc L (vI i :: vR a :: st) h Q := by
  subst hn
  intro p l e R s m args below meth c D r G H locs ls C0 hG hL hR hS
  have K := kk p l e R s m args below meth c D r G H locs ls C0 hG hL hR hS
  obtain ⟨cA, h1, h2, h3⟩ := hR.lab ha
  have hz := zx_in hi hN
  obtain ⟨e1, e2⟩ := zidx hi hN
  refine W.lald (v := .long (Int64.ofInt (f i))) C0.1 C0.2.1 h3 (h1 N (fun j => .long (Int64.ofInt (f j)))) (fun q => by cases q) (by show ¬ (_ ∨ (arrV _ _ _).slots.size ≤ _); rw [arrV_size]; exact hz) (by show (arrV _ _ _).slots[_]? = _; rw [arrV_read _ _ e2]; dsimp only; rw [e1]) rfl rfl dd K
theorem z_bald {a N : Nat} {f : Int → Int} {i : Int} (n : Nat) (dd : decode M.2.1 pc = .ok (.baload, 1)) (hn : pc + 1 = n) (ha : h.1 a = some (zB N f)) (hN : N < 2147483648) (hi : 0 ≤ i ∧ i < N) (kk : Z d M mr n L (vI (f i) :: st) h Q) : Z d M mr pc L (vI i :: vR a :: st) h Q := by
  subst hn
  intro p l e R s m args below meth c D r G H locs ls C0 hG hL hR hS
  have K := kk p l e R s m args below meth c D r G H locs ls C0 hG hL hR hS
  obtain ⟨cA, h1, h2, h3⟩ := hR.lab ha
  have hz := zx_in hi hN
  obtain ⟨e1, e2⟩ := zidx hi hN
  refine W.zald (v := .int (Int32.ofInt (f i))) C0.1 C0.2.1 h3 (h1 N (fun j => .int (Int32.ofInt (f j)))) (fun q => by cases q) (by show ¬ (_ ∨ (arrV _ _ _).slots.size ≤ _); rw [arrV_size]; exact hz) (by show (arrV _ _ _).slots[_]? = _; rw [arrV_read _ _ e2]; dsimp only; rw [e1]) rfl rfl dd K
theorem z_aald {a N : Nat} {f : Int → Option Nat} {i : Int} (n : Nat) (dd : decode M.2.1 pc = .ok (.aaload, 1)) (hn : pc + 1 = n) (ha : h.1 a = some (zT N f)) (hN : N < 2147483648) (hi : 0 ≤ i ∧ i < N) (kk : Z d M mr n L (.inr (.inr (f i)) :: st) h Q) : Z d M mr pc L (vI i :: vR a :: st) h Q := by
  subst hn
  intro p l e R s m args below meth c D r G H locs ls C0 hG hL hR hS
  have K := kk p l e R s m args below meth c D r G H locs ls C0 hG hL hR hS
  obtain ⟨cA, h1, h2, h3⟩ := hR.lab ha
  have hz := zx_in hi hN
  obtain ⟨e1, e2⟩ := zidx hi hN
  refine W.aald (v := zv r (.inr (.inr (f i)))) (ty := .object ztel) C0.1 C0.2.1 h3 (h1 N (fun j => va_rf ((f j).map r))) rfl (fun q => by cases q) (by show ¬ (_ ∨ (arrV _ _ _).slots.size ≤ _); rw [arrV_size]; exact hz) (by show (arrV _ _ _).slots[_]? = _; rw [arrV_read _ _ e2]; dsimp only; rw [e1]; cases f i <;> rfl) rfl rfl dd K
theorem zstore_fun {i : Int} {n : Nat} (h : 0 ≤ i ∧ i < n) (hn : n < 2147483648) (f : Int → Int) (x : Int) (mk : Int → Value) : updV (fun j : Nat => mk (f j)) (Int32.ofInt i).toNatClampNeg (mk x) = fun j : Nat => mk (zst f i x j) := by
  obtain ⟨e1, e2⟩ := zidx h hn
  funext q
  by_cases hq : q = (Int32.ofInt i).toNatClampNeg
  · rw [hq]; simp [updV, zst, e1]
  · have : ((q : Int) ≠ i) := by omega
    simp [updV, zst, hq, this]
theorem z_iast {a N : Nat} {f : Int → Int} {i x : Int} (n : Nat) (dd : decode M.2.1 pc = .ok (.iastore, 1)) (hn : pc + 1 = n) (h2 : 2 ≤ a) (ha : h.1 a = some (zI N f)) (hN : N < 2147483648) (hi : 0 ≤ i ∧ i < N) (kk : Z d M mr n L st (zup h a (zI N (zst f i x))) Q) : Z d M mr pc L (vI x :: vI i :: vR a :: st) h Q := by
  subst hn
  intro p l e R s m args below meth c D r G H locs ls C0 hG hL hR hS
  obtain ⟨cA, k1, k2, k3⟩ := hR.lab ha
  have hz := zx_in hi hN
  refine W.iast C0.1 C0.2.1 k3 (k1 N (fun j => .int (Int32.ofInt (f j)))) (fun q => by cases q) (by show ¬ (_ ∨ (arrV _ _ _).slots.size ≤ _); rw [arrV_size]; exact hz) rfl rfl dd fun H1 e1 z1 o1 => ?_
  refine kk p l e R s m args below meth c D r G H1 _ ls C0 hG hL (hR.put ha ⟨cA, k1, k2, ?_⟩ z1 o1) (hS.put z1 o1 (zA_lab h2))
  rw [e1]
  show some ((arrV cA N (fun j => Value.int (Int32.ofInt (f j)))).setSlot _ _) = some (arrV cA N (fun j => Value.int (Int32.ofInt (zst f i x j))))
  rw [arrV_store]
  exact congrArg (fun F => some (arrV cA N F)) (zstore_fun hi hN f x (fun z => .int (Int32.ofInt z)))
theorem z_last {a N : Nat} {f : Int → Int} {i x : Int} (n : Nat) (dd : decode M.2.1 pc = .ok (.lastore, 1)) (hn : pc + 1 = n) (h2 : 2 ≤ a) (ha : h.1 a = some (zJ N f)) (hN : N < 2147483648) (hi : 0 ≤ i ∧ i < N) (kk : Z d M mr n L st (zup h a (zJ N (zst f i x))) Q) : Z d M mr pc L (vJ x :: vI i :: vR a :: st) h Q := by
  subst hn
  intro p l e R s m args below meth c D r G H locs ls C0 hG hL hR hS
  obtain ⟨cA, k1, k2, k3⟩ := hR.lab ha
  have hz := zx_in hi hN
  refine W.last C0.1 C0.2.1 k3 (k1 N (fun j => .long (Int64.ofInt (f j)))) (fun q => by cases q) (by show ¬ (_ ∨ (arrV _ _ _).slots.size ≤ _); rw [arrV_size]; exact hz) rfl rfl dd fun H1 e1 z1 o1 => ?_
  refine kk p l e R s m args below meth c D r G H1 _ ls C0 hG hL (hR.put ha ⟨cA, k1, k2, ?_⟩ z1 o1) (hS.put z1 o1 (zA_lab h2))
  rw [e1]
  show some ((arrV cA N (fun j => Value.long (Int64.ofInt (f j)))).setSlot _ _) = some (arrV cA N (fun j => Value.long (Int64.ofInt (zst f i x j))))
  rw [arrV_store]
  exact congrArg (fun F => some (arrV cA N F)) (zstore_fun hi hN f x (fun z => .long (Int64.ofInt z)))
theorem z_bast {a N : Nat} {f : Int → Int} {i x : Int} (n : Nat) (dd : decode M.2.1 pc = .ok (.bastore, 1)) (hn : pc + 1 = n) (h2 : 2 ≤ a) (ha : h.1 a = some (zB N f)) (hN : N < 2147483648) (hi : 0 ≤ i ∧ i < N) (hx : x = 0 ∨ x = 1) (kk : Z d M mr n L st (zup h a (zB N (zst f i x))) Q) : Z d M mr pc L (vI x :: vI i :: vR a :: st) h Q := by
  subst hn
  intro p l e R s m args below meth c D r G H locs ls C0 hG hL hR hS
  obtain ⟨cA, k1, k2, k3⟩ := hR.lab ha
  have hz := zx_in hi hN
  have hnar : narrow .boolean (.int (Int32.ofInt x)) = .int (Int32.ofInt x) := by rcases hx with rfl | rfl <;> decide
  refine W.zast C0.1 C0.2.1 k3 (k1 N (fun j => .int (Int32.ofInt (f j)))) (fun q => by cases q) (by show ¬ (_ ∨ (arrV _ _ _).slots.size ≤ _); rw [arrV_size]; exact hz) rfl rfl dd fun H1 e1 z1 o1 => ?_
  refine kk p l e R s m args below meth c D r G H1 _ ls C0 hG hL (hR.put ha ⟨cA, k1, k2, ?_⟩ z1 o1) (hS.put z1 o1 (zA_lab h2))
  rw [e1, hnar]
  show some ((arrV cA N (fun j => Value.int (Int32.ofInt (f j)))).setSlot _ _) = some (arrV cA N (fun j => Value.int (Int32.ofInt (zst f i x j))))
  rw [arrV_store]
  exact congrArg (fun F => some (arrV cA N F)) (zstore_fun hi hN f x (fun z => .int (Int32.ofInt z)))
theorem z_aast {a b N ci : Nat} {fs : List zV} {f : Int → Option Nat} {i : Int} {T : u_T} {NT : Nat} (n : Nat) (dd : decode M.2.1 pc = .ok (.aastore, 1)) (hn : pc + 1 = n) (h2 : 2 ≤ a) (ha : h.1 a = some (zT N f)) (hN : N < 2147483648) (hi : 0 ≤ i ∧ i < N) (hb : h.1 b = some (zO ci fs)) (hc : vwCl[ci]? = some (ztel, T, NT)) (kk : Z d M mr n L st (zup h a (zT N (zstR f i (some b)))) Q) : Z d M mr pc L (vR b :: vI i :: vR a :: st) h Q := by
  subst hn
  intro p l e R s m args below meth c D r G H locs ls C0 hG hL hR hS
  have hK := C0.2.2.2.2.2.1.1
  obtain ⟨cA, k1, k2, k3⟩ := hR.lab ha
  obtain ⟨r', hr', cellV, g1, g2, g3, -⟩ := hR.lab hb
  obtain ⟨e1, e2⟩ := zidx hi hN
  have hz := zx_in hi hN
  have hcls := (hK.1 ci _ hc).2
  obtain ⟨kA, comp, j1, j2, j3, j4⟩ := k2
  have hcomp : comp = D.1 ci := Option.some.inj (j3.symm.trans hcls.1)
  subst hcomp
  obtain ⟨kC, hkC, -⟩ := hcls.2
  refine W.aast C0.1 C0.2.1 k3 (fun q h => by cases h) (fun h => by cases h) j1 j2 rfl hkC ⟨fun q => hz (Or.inl q), by show _ < (arrV _ _ _).slots.size; rw [arrV_size]; exact e2⟩ g1 (fun q h => by rw [g3] at h; cases h) (by rw [g2]; exact hkC) (by rw [g2]; exact va_assign hcls) rfl rfl dd fun H1 ee z1 o1 => ?_
  refine kk p l e R s m args below meth c D r G H1 _ ls C0 hG hL (hR.put ha ⟨cA, k1, ⟨kA, _, j1, j2, j3, j4⟩, ?_⟩ z1 o1) (hS.put z1 o1 (zA_lab h2))
  rw [ee]
  show some ((arrV cA N (fun j => va_rf ((f j).map r))).setSlot _ _) = some (arrV cA N (fun j => va_rf ((zstR f i (some b) j).map r)))
  rw [arrV_store]
  refine congrArg (fun F => some (arrV cA N F)) ?_
  funext q
  by_cases hq : q = (Int32.ofInt i).toNatClampNeg
  · rw [hq]; simp [updV, zstR, e1, va_rf]
  · have : ((q : Int) ≠ i) := by omega
    simp [updV, zstR, hq, this]
theorem z_alen {a k N : Nat} {f : Int → Int} (n : Nat) (dd : decode M.2.1 pc = .ok (.arraylength, 1)) (hn : pc + 1 = n) (ha : h.1 a = some (.inr (.inl (k, N, f)))) (kk : Z d M mr n L (vI (N : Int) :: st) h Q) : Z d M mr pc L (vR a :: st) h Q := by
  subst hn
  intro p l e R s m args below meth c D r G H locs ls C0 hG hL hR hS
  have K := kk p l e R s m args below meth c D r G H locs ls C0 hG hL hR hS
  obtain ⟨cA, k1, k2, k3⟩ := hR.lab ha
  match k, k1, k3 with
  | 0, k1, k3 => exact W.alen (n := Int32.ofInt N) C0.1 C0.2.1 k3 (k1 N (fun j => .int (Int32.ofInt (f j)))) (by show ((arrV _ _ _).slots.size).toInt32 = _; rw [arrV_size, Int32.ofInt_eq_ofNat]) rfl rfl dd K
  | 1, k1, k3 => exact W.alen (n := Int32.ofInt N) C0.1 C0.2.1 k3 (k1 N (fun j => .long (Int64.ofInt (f j)))) (by show ((arrV _ _ _).slots.size).toInt32 = _; rw [arrV_size, Int32.ofInt_eq_ofNat]) rfl rfl dd K
  | k + 2, k1, k3 => exact W.alen (n := Int32.ofInt N) C0.1 C0.2.1 k3 (k1 N (fun j => .int (Int32.ofInt (f j)))) (by show ((arrV _ _ _).slots.size).toInt32 = _; rw [arrV_size, Int32.ofInt_eq_ofNat]) rfl rfl dd K
theorem z_alenT {a N : Nat} {f : Int → Option Nat} (n : Nat) (dd : decode M.2.1 pc = .ok (.arraylength, 1)) (hn : pc + 1 = n) (ha : h.1 a = some (zT N f)) (kk : Z d M mr n L (vI (N : Int) :: st) h Q) : Z d M mr pc L (vR a :: st) h Q := by
  subst hn
  intro p l e R s m args below meth c D r G H locs ls C0 hG hL hR hS
  have K := kk p l e R s m args below meth c D r G H locs ls C0 hG hL hR hS
  obtain ⟨cA, k1, k2, k3⟩ := hR.lab ha
  exact W.alen (n := Int32.ofInt N) C0.1 C0.2.1 k3 (k1 N (fun j => va_rf ((f j).map r))) (by show ((arrV _ _ _).slots.size).toInt32 = _; rw [arrV_size, Int32.ofInt_eq_ofNat]) rfl rfl dd K
end ZHEAP
end
section
/-! ROWS OF THE ABSTRACT MACHINE: new cells, calls -/
def zcat : List zV → Nat
  | [] => 0
  | .inr (.inl _) :: t => 2 + zcat t
  | _ :: t => 1 + zcat t
theorem zcat_eq (r : Nat → Nat) : ∀ st : List zV, ((st.map (zv r)).map fun v => v.category).sum = zcat st
  | [] => rfl
  | .inr (.inl x) :: t => by simp only [List.map_cons, List.sum_cons, zcat, zcat_eq r t]; rfl
  | .inl x :: t => by simp only [List.map_cons, List.sum_cons, zcat, zcat_eq r t]; rfl
  | .inr (.inr (some x)) :: t => by simp only [List.map_cons, List.sum_cons, zcat, zcat_eq r t]; rfl
  | .inr (.inr none) :: t => by simp only [List.map_cons, List.sum_cons, zcat, zcat_eq r t]; rfl
theorem va_S.new {A : Nat → Prop} {H0 H H1 : Heap} {locs : List Loc} (h : va_S A H0 H locs) (hz : H1.size = H.size + 1) (ho : ∀ q, q < H.size → H1[q]? = H[q]?) : va_S A H0 H1 locs :=
  ⟨by have := h.1; omega, fun q h1 h2 => (ho q (Nat.lt_of_lt_of_le h1 h.1)).trans (h.2.1 q h1 h2), h.2.2⟩
section ZNEW
variable {d : Nat} {M : zM} {A B x y : Nat} {pc : Nat} {L : List (Option zV)} {st : List zV} {h : zH} {Q : Option zV → zH → Prop}
theorem z_new {ci idx N : Nat} {C : String} {T : u_T} {ty : Nat → FieldType} (n : Nat) (fs : List zV) (dd : decode M.2.1 pc = .ok (.new idx, 3)) (hn : pc + 3 = n) (hc : vwCl[ci]? = some (C, T, N)) (hi : ∀ w ∈ u_ws C T N, w ∈ zW) (hty : ∀ k, k < N → parseFieldDescriptor (T k).2.2.1 = some (ty k)) (hw1 : Cond.classLink M.1.cls idx C ∈ zW) (hw2 : Cond.instantiable C N ∈ zW) (hw3 : Cond.initialized C ∈ zW) (hfs : ∀ (r : Nat → Nat) (j : Nat), j < N → defaultValue (ty j) = vp_V (fs.map (zv r)) j) (hr : x + 1 ≤ A ∧ y + N ≤ B) (kk : Z d M (A, B, x + 1, y + N) n L (vR h.2 :: st) (znew h (zO ci fs)) Q) : Z d M (A, B, x, y) pc L st h Q := by
  subst hn
  intro p l e R s m args below meth c D r G H locs ls C0 hG hL hR hS
  have hts := C0.2.2.2.2.1
  have hKn := C0.2.2.2.2.2.1.1.1 ci _ hc
  obtain ⟨-, -, -, -, -, -, -, -, -, hcA, hcB⟩ := id C0
  refine W.newcK C0.1 C0.2.1 C0.2.2.2.1 (hts _ hw1) (hts _ hw2) (hts _ hw3) rfl dd (Nat.le_trans hr.1 hcA) (Nat.le_trans hr.2 hcB) hKn.2.1 rfl fun H1 kC hkC e1 z1 o1 => ?_
  obtain ⟨hR1, hr1⟩ := hR.push (c := zO ci fs) ⟨_, hc, (u_born ty hts hi hKn hkC e1 hty).to (hfs r)⟩ z1 o1
  have K := kk p l e R s m args below meth c D r G H1 locs ls C0 hG hL hR1 (hS.new z1 o1)
  rw [← hr1]
  exact K

theorem z_newa_int {v : Int} (n N : Nat) (dd : decode M.2.1 pc = .ok (.newarray .int, 2)) (hn : pc + 2 = n) (hN : v = (N : Int)) (hM : N ≤ 100000) (hw : Cond.arrayClass (newarray.typeOf .int) ∈ zW) (hr : x + 1 ≤ A ∧ y + N ≤ B) (kk : Z d M (A, B, x + 1, y + N) n L (vR h.2 :: st) (znew h (zI N (fun _ => 0))) Q) : Z d M (A, B, x, y) pc L (vI v :: st) h Q := by
  subst hn
  subst hN
  intro p l e R s m args below meth c D r G H locs ls C0 hG hL hR hS
  have hts := C0.2.2.2.2.1
  obtain ⟨-, -, -, -, -, -, -, -, -, hcA, hcB⟩ := id C0
  refine va_newaK (atype := .int) (N := N) C0.1 C0.2.1 (hts _ hw) rfl dd rfl (by intro q; have := (z_lt (x := (N : Int)) (y := 0) (by omega) (by omega)).mp q; omega) (by rw [zx_cl (by omega)]; omega) (by show N * _ ≤ 536870912; simp only [newarray.typeOf, componentBytes]; omega) (Nat.le_trans hr.1 hcA) (Nat.le_trans hr.2 hcB) rfl fun H1 cA e1 z1 o1 hAr hNm => ?_
  obtain ⟨hR1, hr1⟩ := hR.push (c := zI N (fun _ => 0)) ⟨cA, hAr, hNm, e1⟩ z1 o1
  have K := kk p l e R s m args below meth c D r G H1 locs ls C0 hG hL hR1 (hS.new z1 o1)
  rw [← hr1]
  exact K

theorem z_newa_long {v : Int} (n N : Nat) (dd : decode M.2.1 pc = .ok (.newarray .long, 2)) (hn : pc + 2 = n) (hN : v = (N : Int)) (hM : N ≤ 100000) (hw : Cond.arrayClass (newarray.typeOf .long) ∈ zW) (hr : x + 1 ≤ A ∧ y + N ≤ B) (kk : Z d M (A, B, x + 1, y + N) n L (vR h.2 :: st) (znew h (zJ N (fun _ => 0))) Q) : Z d M (A, B, x, y) pc L (vI v :: st) h Q := by
  subst hn
  subst hN
  intro p l e R s m args below meth c D r G H locs ls C0 hG hL hR hS
  have hts := C0.2.2.2.2.1
  obtain ⟨-, -, -, -, -, -, -, -, -, hcA, hcB⟩ := id C0
  refine va_newaK (atype := .long) (N := N) C0.1 C0.2.1 (hts _ hw) rfl dd rfl (by intro q; have := (z_lt (x := (N : Int)) (y := 0) (by omega) (by omega)).mp q; omega) (by rw [zx_cl (by omega)]; omega) (by show N * _ ≤ 536870912; simp only [newarray.typeOf, componentBytes]; omega) (Nat.le_trans hr.1 hcA) (Nat.le_trans hr.2 hcB) rfl fun H1 cA e1 z1 o1 hAr hNm => ?_
  obtain ⟨hR1, hr1⟩ := hR.push (c := zJ N (fun _ => 0)) ⟨cA, hAr, hNm, e1⟩ z1 o1
  have K := kk p l e R s m args below meth c D r G H1 locs ls C0 hG hL hR1 (hS.new z1 o1)
  rw [← hr1]
  exact K

theorem z_newa_boolean {v : Int} (n N : Nat) (dd : decode M.2.1 pc = .ok (.newarray .boolean, 2)) (hn : pc + 2 = n) (hN : v = (N : Int)) (hM : N ≤ 100000) (hw : Cond.arrayClass (newarray.typeOf .boolean) ∈ zW) (hr : x + 1 ≤ A ∧ y + N ≤ B) (kk : Z d M (A, B, x + 1, y + N) n L (vR h.2 :: st) (znew h (zB N (fun _ => 0))) Q) : Z d M (A, B, x, y) pc L (vI v :: st) h Q := by
  subst hn
  subst hN
  intro p l e R s m args below meth c D r G H locs ls C0 hG hL hR hS
  have hts := C0.2.2.2.2.1
  obtain ⟨-, -, -, -, -, -, -, -, -, hcA, hcB⟩ := id C0
  refine va_newaK (atype := .boolean) (N := N) C0.1 C0.2.1 (hts _ hw) rfl dd rfl (by intro q; have := (z_lt (x := (N : Int)) (y := 0) (by omega) (by omega)).mp q; omega) (by rw [zx_cl (by omega)]; omega) (by show N * _ ≤ 536870912; simp only [newarray.typeOf, componentBytes]; omega) (Nat.le_trans hr.1 hcA) (Nat.le_trans hr.2 hcB) rfl fun H1 cA e1 z1 o1 hAr hNm => ?_
  obtain ⟨hR1, hr1⟩ := hR.push (c := zB N (fun _ => 0)) ⟨cA, hAr, hNm, e1⟩ z1 o1
  have K := kk p l e R s m args below meth c D r G H1 locs ls C0 hG hL hR1 (hS.new z1 o1)
  rw [← hr1]
  exact K

theorem z_anew {idx : Nat} {v : Int} (n N : Nat) (dd : decode M.2.1 pc = .ok (.anewarray idx, 3)) (hn : pc + 3 = n) (hN : v = (N : Int)) (hM : N ≤ 100000) (hw : Cond.classLink M.1.cls idx ztel ∈ zW) (hr : x + 1 ≤ A ∧ y + N ≤ B) (kk : Z d M (A, B, x + 1, y + N) n L (vR h.2 :: st) (znew h (zT N (fun _ => none))) Q) : Z d M (A, B, x, y) pc L (vI v :: st) h Q := by
  subst hn
  subst hN
  intro p l e R s m args below meth c D r G H locs ls C0 hG hL hR hS
  have hts := C0.2.2.2.2.1
  obtain ⟨-, -, -, -, -, -, -, -, -, hcA, hcB⟩ := id C0
  have hov : va_AO ztel s := C0.2.2.2.2.2.1.2.2.2
  have hcl : (Int32.ofInt (N : Int)).toNatClampNeg = N := by rw [zx_cl (by omega)]; omega
  refine W.anew C0.1 C0.2.1 C0.2.2.2.1 (hts _ hw) (va_AO.use hov) rfl dd rfl (by intro q; have := (z_lt (x := (N : Int)) (y := 0) (by omega) (by omega)).mp q; omega) (by rw [hcl]; omega) (Nat.le_trans hr.1 hcA) (by rw [hcl]; exact Nat.le_trans hr.2 hcB) fun cA kA comp f1 f2 f3 f4 => ?_
  rw [hcl]
  generalize hH1 : H.push ({ cls := cA, slots := Array.replicate N .null, vm := .none } : Cell) = H1
  have z1 : H1.size = H.size + 1 := by rw [← hH1, Array.size_push]
  have e1 : H1[H.size]? = some (arrV cA N (fun _ => .null)) := by rw [← hH1, Array.getElem?_push_size, ← arrV_new]
  have o1 : ∀ q : Nat, q < H.size → H1[q]? = H[q]? := fun q hq => by rw [← hH1, Array.getElem?_push, if_neg (Nat.ne_of_lt hq)]
  have hAr : ArrOfT s cA (.object ztel) := fun N z => ⟨(fun k h => by cases h), kA, f2, comp, f3⟩
  obtain ⟨hR1, hr1⟩ := hR.push (c := zT N (fun _ => none)) ⟨cA, hAr, ⟨kA, comp, f2, f3, f4, f1⟩, e1⟩ z1 o1
  have K := kk p l e R s m args below meth c D r G H1 locs ls C0 hG hL hR1 (hS.new z1 o1)
  rw [← hr1]
  exact K
end ZNEW
section ZCALL
variable {d : Nat} {M : zM} {mr : zK} {pc : Nat} {L : List (Option zV)} {st : List zV} {h : zH} {Q : Option zV → zH → Prop}
theorem z_objInit {a idx : Nat} (n : Nat) (dd : decode M.2.1 pc = .ok (.invokespecial idx, 3)) (hn : pc + 3 = n) (hw1 : Cond.methodLink M.1.cls idx Lib.objectInit ∈ zW) (hw2 : Cond.instanceMethod Lib.objectInit ∈ zW) (hw3 : Cond.code Lib.objectInit ⟨#[0xb1]⟩ 1 none ∈ zW) (hst : zcat st ≤ 8) (kk : Z (d + 1) M mr n L st h Q) : Z (d + 1) M mr pc L (vR a :: st) h Q := by
  subst hn
  intro p l e R s m args below meth c D r G H locs ls C0 hG hL hR hS
  have K := kk p l e R s m args below meth c D r G H locs ls C0 hG hL hR hS
  have hts := C0.2.2.2.2.1
  obtain ⟨-, -, hml, -, -, -, -, hfr, hlo, -, -⟩ := id C0
  refine W.objInit C0.1 C0.2.1 C0.2.2.2.1 (hts _ hw1) (hts _ hw2) (hts _ hw3) rfl (by rw [hml]; exact hL.1) rfl dd (by omega) ?_ K
  show 2 * 0 + _ + 12 ≤ _
  rw [zcat_eq]; omega
theorem z_gets {idx : Nat} (n : Nat) (dd : decode M.2.1 pc = .ok (.getstatic idx, 3)) (hn : pc + 3 = n) (hw : Cond.fieldLink M.1.cls idx "LateLetters" "FACTORIALS" "[J" ∈ zW) (kk : Z d M mr n L (vR 1 :: st) h Q) : Z d M mr pc L st h Q := by
  subst hn
  intro p l e R s m args below meth c D r G H locs ls C0 hG hL hR hS
  have K := kk p l e R s m args below meth c D r G H locs ls C0 hG hL hR hS
  exact va_gets C0.1 C0.2.1 C0.2.2.2.2.2.1.2.1 hS C0.2.2.2.1 (C0.2.2.2.2.1 _ hw) (fun _ q => q) dd K
/-- behind a call -/
theorem zrun_go {p : Program} {l : Launch} {e : Env} {R : Room} {s : State} {m : MethodId} {args : Array Value} {below : List Frame} {meth : Method} {c : Code} {D : va_G} {r : Nat → Nat} {G : State → Prop} {H : Heap} {locs : List Loc} {ls : Array Slot} {mc ms : Nat} {a : Array Value} {st0 : List Value}
    (C0 : zCtx d M mr p R s m args meth c D r) (hG : zEnd M mr Q p l e R s m args below meth c D r G) (hL : zL r L ls M.2.2.1) (hS : va_S (zA r) s.heap H locs)
    (hr : va_Run p l e R s m args below meth c H locs mr.2.2.1 mr.2.2.2 mc ms (F0 m pc ls st0) (st.map (zv r)) (zQc D r (fun v h' => Z d M (mr.1, mr.2.1, mr.2.2.1 + mc, mr.2.2.2 + ms) (pc + 3) L (zpush v st) h' Q) a) (zA r)) :
    W p l e R s m args below meth c H locs mr.2.2.1 mr.2.2.2 G (F0 m pc ls st0) := by
  intro T hT X
  obtain ⟨v, st₀, t, T', Lc, h0, X', hLc, e1, e2, ⟨⟨v', h', hv, hq, hR'⟩, hz, hk⟩, stp⟩ := hr T hT X
  have hv' : v = v'.map (zv r) := by injection hv
  have hal : t.vm.Alike s.vm := by rw [← e2]; exact X'.warmed.alike.symm
  have hR2 : zRel s D r h' T'.heap := by rw [e1]; exact hR'.moved hal
  rw [h0] at hz hk
  have hS2 : va_S (zA r) s.heap T'.heap (locs ++ Lc) := ⟨Nat.le_trans hS.1 (by rw [e1]; exact hz), fun q g1 g2 => by rw [e1, hk q (Nat.lt_of_lt_of_le g1 hS.1) g2]; exact hS.2.1 q g1 g2, fun q hq => by
      rcases List.mem_append.mp hq with g | g
      · exact hS.2.2 q g
      · exact hLc q g⟩
  obtain ⟨t2, a1, b1⟩ := hq p l e R s m args below meth c D r G T'.heap (locs ++ Lc) ls C0 hG hL hR2 hS2 T' rfl X'
  refine ⟨t2, stp t2 ?_, b1⟩
  subst hv'
  cases v' <;> exact a1
/-- what a caller must know of a callee: its class's number, how many arguments; n: of an instance -/
def zcee (M2 : zM) (n : Nat) : Prop := Cond.initialized M2.1.cls ∈ zW ∧ Cond.code M2.1 M2.2.1 M2.2.2.1 M2.2.2.2 ∈ zW ∧ (M2.1.cls ≠ "java/lang/invoke/MethodHandle" ∧ M2.1.cls ≠ "java/lang/invoke/VarHandle" ∧ (parseMethodDescriptor M2.1.desc).map (fun d => d.parameters.length) = some n) ∧ M2.2.2.1 ≤ 40
def zceeV (M2 : zM) (ci n : Nat) : Prop := zcee M2 n ∧ Cond.instanceMethod M2.1 ∈ zW ∧ Cond.selects M2.1.cls M2.1 M2.1 ∈ zW ∧ ∃ (T : u_T) (N : Nat), vwCl[ci]? = some (M2.1.cls, T, N)
def zceeS (M2 : zM) (n : Nat) : Prop := zcee M2 n ∧ Cond.static M2.1 ∈ zW
def zceeI (M2 : zM) (n : Nat) : Prop := zcee M2 n ∧ Cond.instanceMethod M2.1 ∈ zW ∧ M2.1.name = "<init>" ∧ M2.2.2.2 = none
theorem zcallB {R : Room} {s : State} {m : MethodId} {args : Array Value} {meth : Method} {c : Code} {p : Program} {D : va_G} {r : Nat → Nat} {M2 : zM} {idx n mc ms : Nat} (C0 : zCtx (d + 1) M mr p R s m args meth c D r) (hk : zcee M2 n) (hw : Cond.methodLink M.1.cls idx M2.1 ∈ zW) :
    CallB R s args M.1.cls idx M2.1 M2.2.1 M2.2.2.1 M2.2.2.2 (Cond.code M2.1 M2.2.1 M2.2.2.1 M2.2.2.2 :: zW) (zroom d mc ms) mc ms n := by
  obtain ⟨k1, k2, k3, k4⟩ := hk
  have hts := C0.2.2.2.2.1
  obtain ⟨-, -, -, -, -, -, -, hfr, hlo, -, -⟩ := id C0
  refine callB_of n hts (fun w h => ?_) rfl rfl rfl (hts _ k1) (hts _ hw) k3 ⟨hfr, ?_⟩
  · rcases List.mem_cons.mp h with rfl | h
    · exact zW_good _ k2
    · exact zW_good _ h
  · show 8 + (M2.2.2.1 + 11) + 64 * d ≤ _
    omega
theorem zcallP {s U : State} {D : va_G} {r : Nat → Nat} {H : Heap} {locs : List Loc} {av : List zV} (hE : zEnv D r s s.heap) (hR : zRel s D r h H) (hS : va_S (zA r) s.heap H locs) (hU : U.heap = H) (hW : s.WarmedH U.vm) : zPc D r av h (av.map (zv r)).toArray U :=
  ⟨rfl, hE.to hW (fun a h1 h2 => by rw [hU]; exact hS.2.1 a h1 h2), by rw [hU]; exact hR.moved hW.alike⟩
theorem z_callV {M2 : zM} {idx ci mc ms a : Nat} {fs : List zV} (As : List zV) (n : Nat) (dd : decode M.2.1 pc = .ok (.invokevirtual idx, 3)) (hn : pc + 3 = n) (hk : zceeV M2 ci As.length) (hw : Cond.methodLink M.1.cls idx M2.1 ∈ zW) (hst : zcat st ≤ 8) (hm : mr.2.2.1 + mc ≤ mr.1 ∧ mr.2.2.2 + ms ≤ mr.2.1) (ha : h.1 a = some (zO ci fs))
    (kk : zC d M2 mc ms (vR a :: As) h (fun v h' => Z (d + 1) M (mr.1, mr.2.1, mr.2.2.1 + mc, mr.2.2.2 + ms) n L (zpush v st) h' Q)) : Z (d + 1) M mr pc L (As.reverse ++ vR a :: st) h Q := by
  subst hn
  intro p l e R s m args below meth c D r G H locs ls C0 hG hL hR hS
  have hts := C0.2.2.2.2.1
  obtain ⟨k0, k1, k2, T, N, k3⟩ := hk
  obtain ⟨-, -, hml, -, -, hE, -, -, -, hcA, hcB⟩ := id C0
  have hrecv : ∃ cellB : Cell, H[r a]? = some cellB ∧ cellB.vm.isStatics = false ∧ s.vm.findClass M2.1.cls = some cellB.cls := by
    obtain ⟨q', g0, cell, g1, g2, g3, -⟩ := hR.lab ha
    exact ⟨cell, g1, by rw [g3]; rfl, by rw [g2]; exact (hE.1.1 ci _ k3).2.1⟩
  refine zrun_go (st := st) (mc := mc) (ms := ms) (a := ((vR a :: As).map (zv r)).toArray) C0 hG hL hS ?_
  exact va_runV (As := As.map (zv r)) ⟨C0.1, C0.2.1, rfl, C0.2.2.2.1, hts⟩ (kk l D r) ⟨zcallB C0 k0 hw, hts _ k1, hts _ k2⟩ ⟨zPc_blind D r _ h, hrecv, fun U hU hW => zcallP (av := vR a :: As) hE hR hS hU hW⟩ rfl (List.length_map _) (by rw [hml]; exact hL.1) (by show List.map (zv r) (As.reverse ++ vR a :: st) = _; rw [List.map_append, List.map_reverse]; rfl) (by show 2 * 0 + _ ≤ 8; rw [zcat_eq]; omega) dd ⟨Nat.le_trans hm.1 hcA, Nat.le_trans hm.2 hcB⟩
theorem z_callS {M2 : zM} {idx mc ms : Nat} (As : List zV) (n : Nat) (dd : decode M.2.1 pc = .ok (.invokestatic idx, 3)) (hn : pc + 3 = n) (hk : zceeS M2 As.length) (hw : Cond.methodLink M.1.cls idx M2.1 ∈ zW) (hst : zcat st ≤ 8) (hm : mr.2.2.1 + mc ≤ mr.1 ∧ mr.2.2.2 + ms ≤ mr.2.1)
    (kk : zC d M2 mc ms As h (fun v h' => Z (d + 1) M (mr.1, mr.2.1, mr.2.2.1 + mc, mr.2.2.2 + ms) n L (zpush v st) h' Q)) : Z (d + 1) M mr pc L (As.reverse ++ st) h Q := by
  subst hn
  intro p l e R s m args below meth c D r G H locs ls C0 hG hL hR hS
  have hts := C0.2.2.2.2.1
  obtain ⟨k0, k1⟩ := hk
  obtain ⟨-, -, hml, -, -, hE, -, -, -, hcA, hcB⟩ := id C0
  refine zrun_go (st := st) (mc := mc) (ms := ms) (a := (As.map (zv r)).toArray) C0 hG hL hS ?_
  exact va_runS (As := As.map (zv r)) ⟨C0.1, C0.2.1, rfl, C0.2.2.2.1, hts⟩ (kk l D r) ⟨zcallB C0 k0 hw, hts _ k1⟩ ⟨zPc_blind D r _ h, fun U hU hW => zcallP (av := As) hE hR hS hU hW⟩ rfl (List.length_map _) (by rw [hml]; exact hL.1) (by show List.map (zv r) (As.reverse ++ st) = _; rw [List.map_append, List.map_reverse]) (by show 2 * 0 + _ ≤ 8; rw [zcat_eq]; omega) dd ⟨Nat.le_trans hm.1 hcA, Nat.le_trans hm.2 hcB⟩
theorem z_callI {M2 : zM} {idx mc ms a : Nat} (As : List zV) (n : Nat) (dd : decode M.2.1 pc = .ok (.invokespecial idx, 3)) (hn : pc + 3 = n) (hk : zceeI M2 As.length) (hw : Cond.methodLink M.1.cls idx M2.1 ∈ zW) (hst : zcat st ≤ 8) (hm : mr.2.2.1 + mc ≤ mr.1 ∧ mr.2.2.2 + ms ≤ mr.2.1)
    (kk : zC d M2 mc ms (vR a :: As) h (fun v h' => Z (d + 1) M (mr.1, mr.2.1, mr.2.2.1 + mc, mr.2.2.2 + ms) n L (zpush v st) h' Q)) : Z (d + 1) M mr pc L (As.reverse ++ vR a :: st) h Q := by
  subst hn
  intro p l e R s m args below meth c D r G H locs ls C0 hG hL hR hS
  have hts := C0.2.2.2.2.1
  obtain ⟨k0, k1, k2, k3⟩ := hk
  obtain ⟨-, -, hml, -, -, hE, -, -, -, hcA, hcB⟩ := id C0
  have hB := zcallB (mc := mc) (ms := ms) C0 k0 hw
  rw [k3] at hB
  have hK := kk l D r
  rw [k3] at hK
  refine zrun_go (st := st) (mc := mc) (ms := ms) (a := ((vR a :: As).map (zv r)).toArray) C0 hG hL hS ?_
  exact va_runI (As := As.map (zv r)) ⟨C0.1, C0.2.1, rfl, C0.2.2.2.1, hts⟩ hK ⟨hB, k2, hts _ k1⟩ ⟨zPc_blind D r _ h, fun U hU hW => zcallP (av := vR a :: As) hE hR hS hU hW⟩ rfl (List.length_map _) (by rw [hml]; exact hL.1) (by show List.map (zv r) (As.reverse ++ vR a :: st) = _; rw [List.map_append, List.map_reverse]; rfl) (by show 2 * 0 + _ ≤ 8; rw [zcat_eq]; omega) dd ⟨Nat.le_trans hm.1 hcA, Nat.le_trans hm.2 hcB⟩
theorem zcallN {R : Room} {s : State} {m : MethodId} {args : Array Value} {meth : Method} {c : Code} {p : Program} {D : va_G} {r : Nat → Nat} {M2 : zM} {idx n mc ms : Nat} {host : String} (C0 : zCtx (d + 1) M mr p R s m args meth c D r) (hk : zcee M2 n) (hw : Cond.methodLinkNest M.1.cls idx M2.1 host ∈ lw_tbl) :
    va_CN R s args M.1.cls idx M2.1 host M2.2.1 M2.2.2.1 M2.2.2.2 (Cond.code M2.1 M2.2.1 M2.2.2.1 M2.2.2.2 :: zW) (zroom d mc ms) mc ms n := by
  obtain ⟨k1, k2, k3, k4⟩ := hk
  have hts := C0.2.2.2.2.1
  obtain ⟨-, -, -, -, -, hE, -, hfr, hlo, -, -⟩ := id C0
  refine va_cnB n hts (fun w h => ?_) rfl rfl rfl (hE.2.2.1 _ hw _ _ _ _ rfl) (hts _ k1) k3 ⟨hfr, ?_⟩
  · rcases List.mem_cons.mp h with rfl | h
    · exact zW_good _ k2
    · exact zW_good _ h
  · show 8 + (M2.2.2.1 + 11) + 64 * d ≤ _
    omega
theorem z_callSN {M2 : zM} {idx mc ms : Nat} {host : String} (As : List zV) (n : Nat) (dd : decode M.2.1 pc = .ok (.invokestatic idx, 3)) (hn : pc + 3 = n) (hk : zceeS M2 As.length) (hw : Cond.methodLinkNest M.1.cls idx M2.1 host ∈ lw_tbl) (hst : zcat st ≤ 8) (hm : mr.2.2.1 + mc ≤ mr.1 ∧ mr.2.2.2 + ms ≤ mr.2.1)
    (kk : zC d M2 mc ms As h (fun v h' => Z (d + 1) M (mr.1, mr.2.1, mr.2.2.1 + mc, mr.2.2.2 + ms) n L (zpush v st) h' Q)) : Z (d + 1) M mr pc L (As.reverse ++ st) h Q := by
  subst hn
  intro p l e R s m args below meth c D r G H locs ls C0 hG hL hR hS
  have hts := C0.2.2.2.2.1
  obtain ⟨k0, k1⟩ := hk
  obtain ⟨-, -, hml, -, -, hE, -, -, -, hcA, hcB⟩ := id C0
  refine zrun_go (st := st) (mc := mc) (ms := ms) (a := (As.map (zv r)).toArray) C0 hG hL hS ?_
  exact va_runSN (As := As.map (zv r)) ⟨C0.1, C0.2.1, rfl, C0.2.2.2.1, hts⟩ (kk l D r) ⟨zcallN C0 k0 hw, hts _ k1, trivial⟩ ⟨zPc_blind D r _ h, fun U hU hW => zcallP (av := As) hE hR hS hU hW⟩ rfl (List.length_map _) (by rw [hml]; exact hL.1) (by show List.map (zv r) (As.reverse ++ st) = _; rw [List.map_append, List.map_reverse]) (by show 2 * 0 + _ ≤ 8; rw [zcat_eq]; omega) dd ⟨Nat.le_trans hm.1 hcA, Nat.le_trans hm.2 hcB⟩
theorem z_callIN {M2 : zM} {idx mc ms a : Nat} {host : String} (As : List zV) (n : Nat) (dd : decode M.2.1 pc = .ok (.invokespecial idx, 3)) (hn : pc + 3 = n) (hk : zceeI M2 As.length) (hw : Cond.methodLinkNest M.1.cls idx M2.1 host ∈ lw_tbl) (hst : zcat st ≤ 8) (hm : mr.2.2.1 + mc ≤ mr.1 ∧ mr.2.2.2 + ms ≤ mr.2.1)
    (kk : zC d M2 mc ms (vR a :: As) h (fun v h' => Z (d + 1) M (mr.1, mr.2.1, mr.2.2.1 + mc, mr.2.2.2 + ms) n L (zpush v st) h' Q)) : Z (d + 1) M mr pc L (As.reverse ++ vR a :: st) h Q := by
  subst hn
  intro p l e R s m args below meth c D r G H locs ls C0 hG hL hR hS
  have hts := C0.2.2.2.2.1
  obtain ⟨k0, k1, k2, k3⟩ := hk
  obtain ⟨-, -, hml, -, -, hE, -, -, -, hcA, hcB⟩ := id C0
  have hB := zcallN (mc := mc) (ms := ms) C0 k0 hw
  rw [k3] at hB
  have hK := kk l D r
  rw [k3] at hK
  refine zrun_go (st := st) (mc := mc) (ms := ms) (a := ((vR a :: As).map (zv r)).toArray) C0 hG hL hS ?_
  exact va_runIN (As := As.map (zv r)) ⟨C0.1, C0.2.1, rfl, C0.2.2.2.1, hts⟩ hK ⟨hB, k2, hts _ k1⟩ ⟨zPc_blind D r _ h, fun U hU hW => zcallP (av := vR a :: As) hE hR hS hU hW⟩ rfl (List.length_map _) (by rw [hml]; exact hL.1) (by show List.map (zv r) (As.reverse ++ vR a :: st) = _; rw [List.map_append, List.map_reverse]; rfl) (by show 2 * 0 + _ ≤ 8; rw [zcat_eq]; omega) dd ⟨Nat.le_trans hm.1 hcA, Nat.le_trans hm.2 hcB⟩

theorem z_callV0 {M2 : zM} {idx mc ms ci a : Nat} {fs : List zV} (n : Nat) (dd : decode M.2.1 pc = .ok (.invokevirtual idx, 3)) (hn : pc + 3 = n) (hk : zceeV M2 ci 0) (hw : Cond.methodLink M.1.cls idx M2.1 ∈ zW) (hst : zcat st ≤ 8) (hm : mr.2.2.1 + mc ≤ mr.1 ∧ mr.2.2.2 + ms ≤ mr.2.1) (ha : h.1 a = some (zO ci fs))
    (kk : zC d M2 mc ms (vR a :: []) h (fun v h' => Z (d + 1) M (mr.1, mr.2.1, mr.2.2.1 + mc, mr.2.2.2 + ms) n L (zpush v st) h' Q)) : Z (d + 1) M mr pc L (vR a :: st) h Q := z_callV [] n dd hn hk hw hst hm ha kk

theorem z_callV1 {M2 : zM} {idx mc ms ci a : Nat} {fs : List zV} {x0 : zV} (n : Nat) (dd : decode M.2.1 pc = .ok (.invokevirtual idx, 3)) (hn : pc + 3 = n) (hk : zceeV M2 ci 1) (hw : Cond.methodLink M.1.cls idx M2.1 ∈ zW) (hst : zcat st ≤ 8) (hm : mr.2.2.1 + mc ≤ mr.1 ∧ mr.2.2.2 + ms ≤ mr.2.1) (ha : h.1 a = some (zO ci fs))
    (kk : zC d M2 mc ms (vR a :: [x0]) h (fun v h' => Z (d + 1) M (mr.1, mr.2.1, mr.2.2.1 + mc, mr.2.2.2 + ms) n L (zpush v st) h' Q)) : Z (d + 1) M mr pc L (x0 :: vR a :: st) h Q := z_callV [x0] n dd hn hk hw hst hm ha kk

theorem z_callV2 {M2 : zM} {idx mc ms ci a : Nat} {fs : List zV} {x0 x1 : zV} (n : Nat) (dd : decode M.2.1 pc = .ok (.invokevirtual idx, 3)) (hn : pc + 3 = n) (hk : zceeV M2 ci 2) (hw : Cond.methodLink M.1.cls idx M2.1 ∈ zW) (hst : zcat st ≤ 8) (hm : mr.2.2.1 + mc ≤ mr.1 ∧ mr.2.2.2 + ms ≤ mr.2.1) (ha : h.1 a = some (zO ci fs))
    (kk : zC d M2 mc ms (vR a :: [x0, x1]) h (fun v h' => Z (d + 1) M (mr.1, mr.2.1, mr.2.2.1 + mc, mr.2.2.2 + ms) n L (zpush v st) h' Q)) : Z (d + 1) M mr pc L (x1 :: x0 :: vR a :: st) h Q := z_callV [x0, x1] n dd hn hk hw hst hm ha kk

theorem z_callV3 {M2 : zM} {idx mc ms ci a : Nat} {fs : List zV} {x0 x1 x2 : zV} (n : Nat) (dd : decode M.2.1 pc = .ok (.invokevirtual idx, 3)) (hn : pc + 3 = n) (hk : zceeV M2 ci 3) (hw : Cond.methodLink M.1.cls idx M2.1 ∈ zW) (hst : zcat st ≤ 8) (hm : mr.2.2.1 + mc ≤ mr.1 ∧ mr.2.2.2 + ms ≤ mr.2.1) (ha : h.1 a = some (zO ci fs))
    (kk : zC d M2 mc ms (vR a :: [x0, x1, x2]) h (fun v h' => Z (d + 1) M (mr.1, mr.2.1, mr.2.2.1 + mc, mr.2.2.2 + ms) n L (zpush v st) h' Q)) : Z (d + 1) M mr pc L (x2 :: x1 :: x0 :: vR a :: st) h Q := z_callV [x0, x1, x2] n dd hn hk hw hst hm ha kk

theorem z_callV4 {M2 : zM} {idx mc ms ci a : Nat} {fs : List zV} {x0 x1 x2 x3 : zV} (n : Nat) (dd : decode M.2.1 pc = .ok (.invokevirtual idx, 3)) (hn : pc + 3 = n) (hk : zceeV M2 ci 4) (hw : Cond.methodLink M.1.cls idx M2.1 ∈ zW) (hst : zcat st ≤ 8) (hm : mr.2.2.1 + mc ≤ mr.1 ∧ mr.2.2.2 + ms ≤ mr.2.1) (ha : h.1 a = some (zO ci fs))
    (kk : zC d M2 mc ms (vR a :: [x0, x1, x2, x3]) h (fun v h' => Z (d + 1) M (mr.1, mr.2.1, mr.2.2.1 + mc, mr.2.2.2 + ms) n L (zpush v st) h' Q)) : Z (d + 1) M mr pc L (x3 :: x2 :: x1 :: x0 :: vR a :: st) h Q := z_callV [x0, x1, x2, x3] n dd hn hk hw hst hm ha kk

theorem z_callS1 {M2 : zM} {idx mc ms : Nat} {x0 : zV} (n : Nat) (dd : decode M.2.1 pc = .ok (.invokestatic idx, 3)) (hn : pc + 3 = n) (hk : zceeS M2 1) (hw : Cond.methodLink M.1.cls idx M2.1 ∈ zW) (hst : zcat st ≤ 8) (hm : mr.2.2.1 + mc ≤ mr.1 ∧ mr.2.2.2 + ms ≤ mr.2.1)
    (kk : zC d M2 mc ms ([x0]) h (fun v h' => Z (d + 1) M (mr.1, mr.2.1, mr.2.2.1 + mc, mr.2.2.2 + ms) n L (zpush v st) h' Q)) : Z (d + 1) M mr pc L (x0 :: st) h Q := z_callS [x0] n dd hn hk hw hst hm kk

theorem z_callS2 {M2 : zM} {idx mc ms : Nat} {x0 x1 : zV} (n : Nat) (dd : decode M.2.1 pc = .ok (.invokestatic idx, 3)) (hn : pc + 3 = n) (hk : zceeS M2 2) (hw : Cond.methodLink M.1.cls idx M2.1 ∈ zW) (hst : zcat st ≤ 8) (hm : mr.2.2.1 + mc ≤ mr.1 ∧ mr.2.2.2 + ms ≤ mr.2.1)
    (kk : zC d M2 mc ms ([x0, x1]) h (fun v h' => Z (d + 1) M (mr.1, mr.2.1, mr.2.2.1 + mc, mr.2.2.2 + ms) n L (zpush v st) h' Q)) : Z (d + 1) M mr pc L (x1 :: x0 :: st) h Q := z_callS [x0, x1] n dd hn hk hw hst hm kk

theorem z_callS3 {M2 : zM} {idx mc ms : Nat} {x0 x1 x2 : zV} (n : Nat) (dd : decode M.2.1 pc = .ok (.invokestatic idx, 3)) (hn : pc + 3 = n) (hk : zceeS M2 3) (hw : Cond.methodLink M.1.cls idx M2.1 ∈ zW) (hst : zcat st ≤ 8) (hm : mr.2.2.1 + mc ≤ mr.1 ∧ mr.2.2.2 + ms ≤ mr.2.1)
    (kk : zC d M2 mc ms ([x0, x1, x2]) h (fun v h' => Z (d + 1) M (mr.1, mr.2.1, mr.2.2.1 + mc, mr.2.2.2 + ms) n L (zpush v st) h' Q)) : Z (d + 1) M mr pc L (x2 :: x1 :: x0 :: st) h Q := z_callS [x0, x1, x2] n dd hn hk hw hst hm kk

theorem z_callS4 {M2 : zM} {idx mc ms : Nat} {x0 x1 x2 x3 : zV} (n : Nat) (dd : decode M.2.1 pc = .ok (.invokestatic idx, 3)) (hn : pc + 3 = n) (hk : zceeS M2 4) (hw : Cond.methodLink M.1.cls idx M2.1 ∈ zW) (hst : zcat st ≤ 8) (hm : mr.2.2.1 + mc ≤ mr.1 ∧ mr.2.2.2 + ms ≤ mr.2.1)
    (kk : zC d M2 mc ms ([x0, x1, x2, x3]) h (fun v h' => Z (d + 1) M (mr.1, mr.2.1, mr.2.2.1 + mc, mr.2.2.2 + ms) n L (zpush v st) h' Q)) : Z (d + 1) M mr pc L (x3 :: x2 :: x1 :: x0 :: st) h Q := z_callS [x0, x1, x2, x3] n dd hn hk hw hst hm kk

theorem z_callI0 {M2 : zM} {idx mc ms a : Nat} (n : Nat) (dd : decode M.2.1 pc = .ok (.invokespecial idx, 3)) (hn : pc + 3 = n) (hk : zceeI M2 0) (hw : Cond.methodLink M.1.cls idx M2.1 ∈ zW) (hst : zcat st ≤ 8) (hm : mr.2.2.1 + mc ≤ mr.1 ∧ mr.2.2.2 + ms ≤ mr.2.1)
    (kk : zC d M2 mc ms (vR a :: []) h (fun v h' => Z (d + 1) M (mr.1, mr.2.1, mr.2.2.1 + mc, mr.2.2.2 + ms) n L (zpush v st) h' Q)) : Z (d + 1) M mr pc L (vR a :: st) h Q := z_callI [] n dd hn hk hw hst hm kk

theorem z_callI1 {M2 : zM} {idx mc ms a : Nat} {x0 : zV} (n : Nat) (dd : decode M.2.1 pc = .ok (.invokespecial idx, 3)) (hn : pc + 3 = n) (hk : zceeI M2 1) (hw : Cond.methodLink M.1.cls idx M2.1 ∈ zW) (hst : zcat st ≤ 8) (hm : mr.2.2.1 + mc ≤ mr.1 ∧ mr.2.2.2 + ms ≤ mr.2.1)
    (kk : zC d M2 mc ms (vR a :: [x0]) h (fun v h' => Z (d + 1) M (mr.1, mr.2.1, mr.2.2.1 + mc, mr.2.2.2 + ms) n L (zpush v st) h' Q)) : Z (d + 1) M mr pc L (x0 :: vR a :: st) h Q := z_callI [x0] n dd hn hk hw hst hm kk

theorem z_callSN1 {M2 : zM} {idx mc ms : Nat} {host : String} {x0 : zV} (n : Nat) (dd : decode M.2.1 pc = .ok (.invokestatic idx, 3)) (hn : pc + 3 = n) (hk : zceeS M2 1) (hw : Cond.methodLinkNest M.1.cls idx M2.1 host ∈ lw_tbl) (hst : zcat st ≤ 8) (hm : mr.2.2.1 + mc ≤ mr.1 ∧ mr.2.2.2 + ms ≤ mr.2.1)
    (kk : zC d M2 mc ms ([x0]) h (fun v h' => Z (d + 1) M (mr.1, mr.2.1, mr.2.2.1 + mc, mr.2.2.2 + ms) n L (zpush v st) h' Q)) : Z (d + 1) M mr pc L (x0 :: st) h Q := z_callSN [x0] n dd hn hk hw hst hm kk

theorem z_callSN2 {M2 : zM} {idx mc ms : Nat} {host : String} {x0 x1 : zV} (n : Nat) (dd : decode M.2.1 pc = .ok (.invokestatic idx, 3)) (hn : pc + 3 = n) (hk : zceeS M2 2) (hw : Cond.methodLinkNest M.1.cls idx M2.1 host ∈ lw_tbl) (hst : zcat st ≤ 8) (hm : mr.2.2.1 + mc ≤ mr.1 ∧ mr.2.2.2 + ms ≤ mr.2.1)
    (kk : zC d M2 mc ms ([x0, x1]) h (fun v h' => Z (d + 1) M (mr.1, mr.2.1, mr.2.2.1 + mc, mr.2.2.2 + ms) n L (zpush v st) h' Q)) : Z (d + 1) M mr pc L (x1 :: x0 :: st) h Q := z_callSN [x0, x1] n dd hn hk hw hst hm kk

theorem z_callSN3 {M2 : zM} {idx mc ms : Nat} {host : String} {x0 x1 x2 : zV} (n : Nat) (dd : decode M.2.1 pc = .ok (.invokestatic idx, 3)) (hn : pc + 3 = n) (hk : zceeS M2 3) (hw : Cond.methodLinkNest M.1.cls idx M2.1 host ∈ lw_tbl) (hst : zcat st ≤ 8) (hm : mr.2.2.1 + mc ≤ mr.1 ∧ mr.2.2.2 + ms ≤ mr.2.1)
    (kk : zC d M2 mc ms ([x0, x1, x2]) h (fun v h' => Z (d + 1) M (mr.1, mr.2.1, mr.2.2.1 + mc, mr.2.2.2 + ms) n L (zpush v st) h' Q)) : Z (d + 1) M mr pc L (x2 :: x1 :: x0 :: st) h Q := z_callSN [x0, x1, x2] n dd hn hk hw hst hm kk

theorem z_callIN0 {M2 : zM} {idx mc ms a : Nat} {host : String} (n : Nat) (dd : decode M.2.1 pc = .ok (.invokespecial idx, 3)) (hn : pc + 3 = n) (hk : zceeI M2 0) (hw : Cond.methodLinkNest M.1.cls idx M2.1 host ∈ lw_tbl) (hst : zcat st ≤ 8) (hm : mr.2.2.1 + mc ≤ mr.1 ∧ mr.2.2.2 + ms ≤ mr.2.1)
    (kk : zC d M2 mc ms (vR a :: []) h (fun v h' => Z (d + 1) M (mr.1, mr.2.1, mr.2.2.1 + mc, mr.2.2.2 + ms) n L (zpush v st) h' Q)) : Z (d + 1) M mr pc L (vR a :: st) h Q := z_callIN [] n dd hn hk hw hst hm kk

theorem z_callIN1 {M2 : zM} {idx mc ms a : Nat} {host : String} {x0 : zV} (n : Nat) (dd : decode M.2.1 pc = .ok (.invokespecial idx, 3)) (hn : pc + 3 = n) (hk : zceeI M2 1) (hw : Cond.methodLinkNest M.1.cls idx M2.1 host ∈ lw_tbl) (hst : zcat st ≤ 8) (hm : mr.2.2.1 + mc ≤ mr.1 ∧ mr.2.2.2 + ms ≤ mr.2.1)
    (kk : zC d M2 mc ms (vR a :: [x0]) h (fun v h' => Z (d + 1) M (mr.1, mr.2.1, mr.2.2.1 + mc, mr.2.2.2 + ms) n L (zpush v st) h' Q)) : Z (d + 1) M mr pc L (x0 :: vR a :: st) h Q := z_callIN [x0] n dd hn hk hw hst hm kk

theorem z_max {idx : Nat} {x y : Int} (n : Nat) (dd : decode M.2.1 pc = .ok (.invokestatic idx, 3)) (hn : pc + 3 = n) (hw1 : Cond.methodLink M.1.cls idx Lib.Math.max.name ∈ zW) (hw2 : Cond.static Lib.Math.max.name ∈ zW) (hw3 : Cond.initialized "java/lang/Math" ∈ zW) (hw4 : Cond.code Lib.Math.max.name Lib.Math.max.code 2 (some .int) ∈ zW) (hst : zcat st ≤ 8) (hc : mr.2.2.1 ≤ mr.1 ∧ mr.2.2.2 ≤ mr.2.1) (hx : -2147483648 ≤ x ∧ x ≤ 2147483647) (hy : -2147483648 ≤ y ∧ y ≤ 2147483647)
    (kk : Z (d + 1) M mr n L (vI (max x y) :: st) h Q) : Z (d + 1) M mr pc L (vI y :: vI x :: st) h Q := by
  subst hn
  intro p l e R s m args below meth c D r G H locs ls C0 hG hL hR hS
  have K := kk p l e R s m args below meth c D r G H locs ls C0 hG hL hR hS
  have hts := C0.2.2.2.2.1
  obtain ⟨-, -, hml, -, -, -, -, hfr, hlo, hcA, hcB⟩ := id C0
  refine va_mmax C0.1 C0.2.1 (by rw [hml]; exact hL.1.symm) C0.2.2.2.1 (hts _ hw1) (hts _ hw2) (hts _ hw3) (hts _ hw4) (by omega) (by rw [zcat_eq]; omega) (Nat.le_trans hc.1 hcA) (Nat.le_trans hc.2 hcB) dd ?_
  have e0 : (if Int32.ofInt x < Int32.ofInt y then Int32.ofInt y else Int32.ofInt x) = Int32.ofInt (max x y) := by
    by_cases q : x < y
    · rw [if_pos ((z_lt hx hy).mpr q)]; congr 1; omega
    · rw [if_neg (fun z => q ((z_lt hx hy).mp z))]; congr 1; omega
  rw [e0]
  exact K

theorem z_min {idx : Nat} {x y : Int} (n : Nat) (dd : decode M.2.1 pc = .ok (.invokestatic idx, 3)) (hn : pc + 3 = n) (hw1 : Cond.methodLink M.1.cls idx Lib.Math.min.name ∈ zW) (hw2 : Cond.static Lib.Math.min.name ∈ zW) (hw3 : Cond.initialized "java/lang/Math" ∈ zW) (hw4 : Cond.code Lib.Math.min.name Lib.Math.min.code 2 (some .int) ∈ zW) (hst : zcat st ≤ 8) (hc : mr.2.2.1 ≤ mr.1 ∧ mr.2.2.2 ≤ mr.2.1) (hx : -2147483648 ≤ x ∧ x ≤ 2147483647) (hy : -2147483648 ≤ y ∧ y ≤ 2147483647)
    (kk : Z (d + 1) M mr n L (vI (min x y) :: st) h Q) : Z (d + 1) M mr pc L (vI y :: vI x :: st) h Q := by
  subst hn
  intro p l e R s m args below meth c D r G H locs ls C0 hG hL hR hS
  have K := kk p l e R s m args below meth c D r G H locs ls C0 hG hL hR hS
  have hts := C0.2.2.2.2.1
  obtain ⟨-, -, hml, -, -, -, -, hfr, hlo, hcA, hcB⟩ := id C0
  refine va_mmin C0.1 C0.2.1 (by rw [hml]; exact hL.1.symm) C0.2.2.2.1 (hts _ hw1) (hts _ hw2) (hts _ hw3) (hts _ hw4) (by omega) (by rw [zcat_eq]; omega) (Nat.le_trans hc.1 hcA) (Nat.le_trans hc.2 hcB) dd ?_
  have e0 : (if Int32.ofInt y < Int32.ofInt x then Int32.ofInt y else Int32.ofInt x) = Int32.ofInt (min x y) := by
    by_cases q : y < x
    · rw [if_pos ((z_lt hy hx).mpr q)]; congr 1; omega
    · rw [if_neg (fun z => q ((z_lt hy hx).mp z))]; congr 1; omega
  rw [e0]
  exact K

theorem z_abs {idx : Nat} {x : Int} (n : Nat) (dd : decode M.2.1 pc = .ok (.invokestatic idx, 3)) (hn : pc + 3 = n) (hw1 : Cond.methodLink M.1.cls idx Lib.MathLoose.abs_long.x ∈ zW) (hw2 : Cond.static Lib.MathLoose.abs_long.x ∈ zW) (hw3 : Cond.initialized "java/lang/Math" ∈ zW) (hw4 : Cond.code Lib.MathLoose.abs_long.x Lib.MathLoose.abs_long.code 2 (some .long) ∈ zW) (hst : zcat st ≤ 8) (hc : mr.2.2.1 ≤ mr.1 ∧ mr.2.2.2 ≤ mr.2.1) (hx : 0 ≤ x ∧ x ≤ 9223372036854775807)
    (kk : Z (d + 1) M mr n L (vJ x :: st) h Q) : Z (d + 1) M mr pc L (vJ x :: st) h Q := by
  subst hn
  intro p l e R s m args below meth c D r G H locs ls C0 hG hL hR hS
  have K := kk p l e R s m args below meth c D r G H locs ls C0 hG hL hR hS
  have hts := C0.2.2.2.2.1
  obtain ⟨-, -, hml, -, -, -, -, hfr, hlo, hcA, hcB⟩ := id C0
  refine va_mabs_long C0.1 C0.2.1 (by rw [hml]; exact hL.1.symm) C0.2.2.2.1 (hts _ hw1) (hts _ hw2) (hts _ hw3) (hts _ hw4) (by omega) (by rw [zcat_eq]; omega) (Nat.le_trans hc.1 hcA) (Nat.le_trans hc.2 hcB) dd ?_
  have e0 : (if 0 < Int64.ofInt x then Int64.ofInt x else -Int64.ofInt x) = Int64.ofInt x := by
    by_cases q : 0 < x
    · exact if_pos ((z_ltJ (x := 0) (by omega) (by omega)).mpr q)
    · rw [show x = 0 by omega]; rfl
  rw [e0]
  exact K
/-- a whole row of ints is copied -/
theorem z_copy {idx a b N : Nat} {f g : Int → Int} {v : Int} (n : Nat) (dd : decode M.2.1 pc = .ok (.invokestatic idx, 3)) (hn : pc + 3 = n) (hw1 : Cond.methodLink M.1.cls idx arraycopyName ∈ zW) (hw2 : Cond.native arraycopyName ∈ zW) (hw3 : Cond.static arraycopyName ∈ zW) (hw4 : Cond.initialized "java/lang/System" ∈ zW) (hst : zcat st ≤ 8) (hv : v = (N : Int)) (hN : N < 100000) (ha : h.1 a = some (zI N f)) (hb : h.1 b = some (zI N g)) (h2 : 2 ≤ b)
    (kk : Z (d + 1) M mr n L st (zup h b (zI N f)) Q) : Z (d + 1) M mr pc L (vI v :: vI 0 :: vR b :: vI 0 :: vR a :: st) h Q := by
  subst hn
  subst hv
  intro p l e R s m args below meth c D r G H locs ls C0 hG hL hR hS
  have hts := C0.2.2.2.2.1
  obtain ⟨-, -, hml, -, -, -, -, hfr, hlo, hcA, hcB⟩ := id C0
  obtain ⟨c0, k1, k2, hc0⟩ := hR.lab ha
  obtain ⟨c1, j1, j2, hc1⟩ := hR.lab hb
  intro T hT X
  obtain ⟨-, q0, hk0, cm0, hkk0⟩ := k1 N (fun j => .int (Int32.ofInt (f j)))
  obtain ⟨-, q1, hk1, cm1, hkk1⟩ := j1 N (fun j => .int (Int32.ofInt (g j)))
  have hcl : (Int32.ofInt (N : Int)).toNatClampNeg = N := by rw [zx_cl (by omega)]; omega
  have hti : (Int32.ofInt (N : Int)).toInt = (N : Int) := z_rng (by omega)
  have ht0 : (Int32.ofInt 0).toInt = 0 := by decide
  have hcl0 : (Int32.ofInt 0).toNatClampNeg = 0 := by decide
  obtain ⟨vm', X', step⟩ := X.arraycopy C0.1 C0.2.2.2.1 (hts _ hw1) (hts _ hw2) (hts _ hw3) (hts _ hw4) (src := r a) (dst := r b) (cs := vp_cell c0 (N, zpf 0 f)) (cd := vp_cell c1 (N, zpf 0 g)) (srcPos := Int32.ofInt 0) (destPos := Int32.ofInt 0) (n := Int32.ofInt (N : Int)) (by rw [hT]; exact hc0) (by rw [hT]; exact hc1)
    (fun _ h => by cases h) (fun _ h => by cases h) (fun h => by cases h) (fun h => by cases h) hk0 hk1 hkk0 hkk1 (by simp [zty, refKind]) (by decide) (by decide) (by intro q; have := (z_lt (x := (N : Int)) (y := 0) (by omega) (by omega)).mp q; omega)
    (by rw [ht0, hti]; show ¬ _ > ((arrV c0 N (fun j => .int (Int32.ofInt (f j)))).slots.size : Int); rw [arrV_size]; omega)
    (by rw [ht0, hti]; show ¬ _ > ((arrV c1 N (fun j => .int (Int32.ofInt (g j)))).slots.size : Int); rw [arrV_size]; omega)
    (fun vm₁ _ i hi => by
      rw [hcl] at hi
      have ee : (vp_cell c0 (N, zpf 0 f)).slots.getD ((Int32.ofInt 0).toNatClampNeg + i) .null = .int (Int32.ofInt (f i)) := by
        show (arrV c0 N (fun j => .int (Int32.ofInt (f j)))).slots.getD _ _ = _
        rw [Array.getD_eq_getD_getElem?, arrV_read _ _ (by rw [hcl0]; omega), hcl0]
        simp
      refine ⟨?_, ?_⟩
      · rw [ee]; rfl
      · rw [ee]; exact trivial)
    (g := F0 m pc ls (List.map (zv r) (vI N :: vI 0 :: vR b :: vI 0 :: vR a :: st))) rfl (by rw [hml]; exact hL.1) (rest := st.map (zv r)) rfl (by rw [C0.2.1]; exact dd) (by omega) (by
      show 2 * 0 + _ + (nativeFrameWords "java/lang/System" "arraycopy" 5 + 11) ≤ _
      rw [zcat_eq]
      have : nativeFrameWords "java/lang/System" "arraycopy" 5 ≤ 40 := by decide
      omega)
  have e1 : copied (vp_cell c0 (N, zpf 0 f)) (vp_cell c1 (N, zpf 0 g)) (Int32.ofInt 0) (Int32.ofInt 0) (Int32.ofInt (N : Int)) = vp_cell c1 (N, zpf 0 f) := by
    refine (va_copied (n0 := N) (n1 := N) (fun z => .int z) c0 c1 (fun j => Int32.ofInt (f j)) (fun j => Int32.ofInt (g j)) (by rw [hcl, hcl0]; omega)).trans ?_
    have key : ∀ (F G : Nat → Value), (∀ j : Nat, j < N → F j = G j) → arrV c1 N F = arrV c1 N G := by
      intro F G hFG
      unfold arrV
      congr 1
      exact congrArg Array.ofFn (funext fun j => hFG j.val j.isLt)
    refine key _ (fun j => Value.int (Int32.ofInt (f j))) (fun j hj => ?_)
    rw [hcl, hcl0]
    rw [pk_cpy_in (Nat.zero_le _) (by omega)]
    simp
  rw [e1] at X' step
  have hl : r b < H.size := (Array.getElem?_eq_some_iff.mp hc1).1
  have hheap : ((T.setVm vm').setCell (r b) (vp_cell c1 (N, zpf 0 f))).heap = H.setIfInBounds (r b) (vp_cell c1 (N, zpf 0 f)) := by rw [← hT]; rfl
  have oq : ∀ q : Nat, q ≠ r b → (H.setIfInBounds (r b) (vp_cell c1 (N, zpf 0 f)))[q]? = H[q]? := fun q hq => by simp [Array.getElem?_setIfInBounds, Ne.symm hq]
  obtain ⟨t, a1, b1⟩ := kk p l e R s m args below meth c D r G _ _ ls C0 hG hL (hR.put hb (c := zI N f) ⟨c1, j1, j2, by simp [Array.getElem?_setIfInBounds, hl]⟩ (by simp) oq) ⟨by simp; exact hS.1, fun q g1 g2 => by
      rw [oq q (fun ee => g2 (by rw [ee]; exact zA_lab h2))]
      exact hS.2.1 q g1 g2, fun q hq => by
      rcases List.mem_append.mp hq with g | g
      · exact hS.2.2 q g
      · obtain ⟨z, -, hz⟩ := List.mem_map.mp g
        rw [← hz]
        exact zA_lab h2⟩ _ hheap X'
  exact ⟨t, step t a1, b1⟩
end ZCALL
end
section
/-! METHODS, WORDS AND CALLEES of the class, the reference and the JDK: by program -/
theorem zins {ws : List Cond} (ps : List Nat) (hp : ws.map some = ps.map (fun i => lw_tbl[i]?)) (hg : ws.all goodWord = true) : ∀ w ∈ ws, w ∈ zW := by
  intro w hw
  have h1 : some w ∈ ps.map (fun i => lw_tbl[i]?) := by rw [← hp]; exact List.mem_map.mpr ⟨w, hw, rfl⟩
  obtain ⟨i, -, hi⟩ := List.mem_map.mp h1
  exact zmem i hi (List.all_eq_true.mp hg w hw)
abbrev mX6_init : zM := (yX6_init, cX6_init, 1, none)
abbrev mX3_init : zM := (yX3_init, cX3_init, 3, none)
abbrev mX0_init : zM := (yX0_init, cX0_init, 1, none)
abbrev mX0_count : zM := (yX0_count, cX0_count, 1, (some .int))
abbrev mX0_forgetAll : zM := (yX0_forgetAll, cX0_forgetAll, 1, none)
abbrev mX3_placeAt : zM := (yX3_placeAt, cX3_placeAt, 2, (some (.object "LateLetters$Telling")))
abbrev mX6_become : zM := (yX6_become, cX6_become, 2, none)
abbrev mX3_store : zM := (yX3_store, cX3_store, 4, none)
abbrev mX0_remember : zM := (yX0_remember, cX0_remember, 2, none)
abbrev mX3_bring : zM := (yX3_bring, cX3_bring, 4, none)
abbrev mX0_takeBack : zM := (yX0_takeBack, cX0_takeBack, 2, (some .boolean))
abbrev mX1_init : zM := (yX1_init, cX1_init, 1, none)
abbrev mX1_by : zM := (yX1_by, cX1_by, 2, (some .long))
abbrev mX1_count : zM := (yX1_count, cX1_count, 4, none)
abbrev mX2_init : zM := (yX2_init, cX2_init, 1, none)
abbrev mX2_count : zM := (yX2_count, cX2_count, 1, (some .int))
abbrev mX2_forgetAll : zM := (yX2_forgetAll, cX2_forgetAll, 1, none)
abbrev mX9_put : zM := (yX9_put, cX9_put, 3, none)
abbrev mX2_add : zM := (yX2_add, cX2_add, 3, (some .boolean))
abbrev mX9_at : zM := (yX9_at, cX9_at, 2, (some .int))
abbrev mX6_hasPerson : zM := (yX6_hasPerson, cX6_hasPerson, 2, (some .boolean))
abbrev mX8_tickOf : zM := (yX8_tickOf, cX8_tickOf, 3, (some .int))
abbrev mX2_isSo : zM := (yX2_isSo, cX2_isSo, 5, (some .boolean))
abbrev mX4_init : zM := (yX4_init, cX4_init, 1, none)
abbrev mX4_forgetAll : zM := (yX4_forgetAll, cX4_forgetAll, 1, none)
abbrev mX4_fill : zM := (yX4_fill, cX4_fill, 3, none)
abbrev mX4_fetch : zM := (yX4_fetch, cX4_fetch, 3, (some .boolean))
abbrev mX5_init : zM := (yX5_init, cX5_init, 1, none)
abbrev mX6_delayOf : zM := (yX6_delayOf, cX6_delayOf, 2, (some .int))
abbrev mX5_begin : zM := (yX5_begin, cX5_begin, 2, none)
abbrev mX6_emptyPlan : zM := (yX6_emptyPlan, cX6_emptyPlan, 1, none)
abbrev mX6_people : zM := (yX6_people, cX6_people, 1, (some .int))
abbrev mX5_isKnower : zM := (yX5_isKnower, cX5_isKnower, 2, (some .boolean))
abbrev mX5_soonest : zM := (yX5_soonest, cX5_soonest, 4, (some .int))
abbrev mX6_gapOf : zM := (yX6_gapOf, cX6_gapOf, 2, (some .int))
abbrev mX5_isLessDelayed : zM := (yX5_isLessDelayed, cX5_isLessDelayed, 3, (some .boolean))
abbrev mX5_leastDelayed : zM := (yX5_leastDelayed, cX5_leastDelayed, 4, (some .int))
abbrev mX5_tell : zM := (yX5_tell, cX5_tell, 5, none)
abbrev mX6_putLast : zM := (yX6_putLast, cX6_putLast, 3, none)
abbrev mX5_layQuickPlan : zM := (yX5_layQuickPlan, cX5_layQuickPlan, 5, none)
abbrev mX5_takeBack : zM := (yX5_takeBack, cX5_takeBack, 4, none)
abbrev mX5_leastLastFrom : zM := (yX5_leastLastFrom, cX5_leastLastFrom, 8, (some .int))
abbrev mX5_leastLast : zM := (yX5_leastLast, cX5_leastLast, 2, (some .int))
abbrev mX6_startWith : zM := (yX6_startWith, cX6_startWith, 3, none)
abbrev mX6_news : zM := (yX6_news, cX6_news, 1, (some .int))
abbrev mX6_standing : zM := (yX6_standing, cX6_standing, 1, (some .int))
abbrev mX6_hasNews : zM := (yX6_hasNews, cX6_hasNews, 2, (some .boolean))
abbrev mX6_hasPlace : zM := (yX6_hasPlace, cX6_hasPlace, 2, (some .boolean))
abbrev mX6_tellerOf : zM := (yX6_tellerOf, cX6_tellerOf, 2, (some .int))
abbrev mX6_personAt : zM := (yX6_personAt, cX6_personAt, 2, (some .int))
abbrev mX6_placeOf : zM := (yX6_placeOf, cX6_placeOf, 3, (some .int))
abbrev mX6_countToldBy : zM := (yX6_countToldBy, cX6_countToldBy, 4, (some .int))
abbrev mX6_branchOf : zM := (yX6_branchOf, cX6_branchOf, 5, (some .int))
abbrev mX6_setDelay : zM := (yX6_setDelay, cX6_setDelay, 3, none)
abbrev mX6_setGap : zM := (yX6_setGap, cX6_setGap, 3, none)
abbrev mX6_tellAnew : zM := (yX6_tellAnew, cX6_tellAnew, 5, (some .int))
abbrev mX6_sendBehindAll : zM := (yX6_sendBehindAll, cX6_sendBehindAll, 4, none)
abbrev mX6_giveTeller : zM := (yX6_giveTeller, cX6_giveTeller, 6, none)
abbrev mX6_exchange : zM := (yX6_exchange, cX6_exchange, 3, none)
abbrev mX7_init : zM := (yX7_init, cX7_init, 1, none)
abbrev mX7_length : zM := (yX7_length, cX7_length, 1, (some .int))
abbrev mX7_add : zM := (yX7_add, cX7_add, 2, (some .boolean))
abbrev mX7_clear : zM := (yX7_clear, cX7_clear, 1, none)
abbrev mX7_figureAt : zM := (yX7_figureAt, cX7_figureAt, 2, (some .int))
abbrev mX7_isFigure : zM := (yX7_isFigure, cX7_isFigure, 5, (some .boolean))
abbrev mX7_fitsInHead : zM := (yX7_fitsInHead, cX7_fitsInHead, 2, (some .boolean))
abbrev mX7_planStart : zM := (yX7_planStart, cX7_planStart, 1, (some .int))
abbrev mX7_wholeLength : zM := (yX7_wholeLength, cX7_wholeLength, 1, (some .int))
abbrev mX7_stands : zM := (yX7_stands, cX7_stands, 5, (some .boolean))
abbrev mX7_fitsInPlan : zM := (yX7_fitsInPlan, cX7_fitsInPlan, 4, (some .boolean))
abbrev mX7_fits : zM := (yX7_fits, cX7_fits, 3, (some .boolean))
abbrev mX7_firstFault : zM := (yX7_firstFault, cX7_firstFault, 2, (some .int))
abbrev mX7_tellInto : zM := (yX7_tellInto, cX7_tellInto, 4, none)
abbrev mX8_init : zM := (yX8_init, cX8_init, 1, none)
abbrev mX8_send : zM := (yX8_send, cX8_send, 7, (some .int))
abbrev mX8_follow : zM := (yX8_follow, cX8_follow, 5, (some .int))
abbrev mX9_init : zM := (yX9_init, cX9_init, 1, none)
abbrev mX9_write : zM := (yX9_write, cX9_write, 2, (some .int))
abbrev mX9_wipe : zM := (yX9_wipe, cX9_wipe, 2, (some .int))
abbrev mX9_fault : zM := (yX9_fault, cX9_fault, 1, (some .int))
abbrev mX9_telling : zM := (yX9_telling, cX9_telling, 1, (some .int))
abbrev mX9_lastIfQuick : zM := (yX9_lastIfQuick, cX9_lastIfQuick, 1, (some .int))
abbrev mX9_about : zM := (yX9_about, cX9_about, 2, (some .int))
abbrev mX9_slackOf : zM := (yX9_slackOf, cX9_slackOf, 4, (some .int))
abbrev mX9_gatheredFrom : zM := (yX9_gatheredFrom, cX9_gatheredFrom, 3, (some .int))
abbrev mX9_person : zM := (yX9_person, cX9_person, 3, (some .int))
abbrev mX9_plan : zM := (yX9_plan, cX9_plan, 2, (some .int))
abbrev mX9_knows : zM := (yX9_knows, cX9_knows, 3, (some .int))
abbrev mX9_last : zM := (yX9_last, cX9_last, 4, (some .int))
abbrev mX9_refusalOfMove : zM := (yX9_refusalOfMove, cX9_refusalOfMove, 4, (some .int))
abbrev mX9_move : zM := (yX9_move, cX9_move, 4, (some .int))
abbrev mX9_refusalOfChange : zM := (yX9_refusalOfChange, cX9_refusalOfChange, 2, (some .int))
abbrev mX9_change : zM := (yX9_change, cX9_change, 3, (some .int))
abbrev mX9_quicken : zM := (yX9_quicken, cX9_quicken, 1, (some .int))
abbrev mX9_refusalOfSet : zM := (yX9_refusalOfSet, cX9_refusalOfSet, 5, (some .int))
abbrev mX9_set : zM := (yX9_set, cX9_set, 5, (some .int))
abbrev mX9_undo : zM := (yX9_undo, cX9_undo, 1, (some .int))
abbrev mX9_number : zM := (yX9_number, cX9_number, 3, (some .long))
abbrev mX9_soon : zM := (yX9_soon, cX9_soon, 4, (some .int))
abbrev mX9_knowers : zM := (yX9_knowers, cX9_knowers, 5, (some .int))
abbrev mX9_readDoings : zM := (yX9_readDoings, cX9_readDoings, 7, (some .boolean))
abbrev mX9_canBeMoved : zM := (yX9_canBeMoved, cX9_canBeMoved, 3, (some .boolean))
abbrev mX9_canBeChanged : zM := (yX9_canBeChanged, cX9_canBeChanged, 2, (some .boolean))
abbrev mX9_canBeDelayed : zM := (yX9_canBeDelayed, cX9_canBeDelayed, 3, (some .boolean))
abbrev mX9_canBe : zM := (yX9_canBe, cX9_canBe, 4, (some .boolean))
abbrev mX9_judge : zM := (yX9_judge, cX9_judge, 6, (some .int))
abbrev mX9_see : zM := (yX9_see, cX9_see, 3, (some .int))
abbrev mX9_unsee : zM := (yX9_unsee, cX9_unsee, 2, (some .int))
abbrev mX9_which : zM := (yX9_which, cX9_which, 4, (some .int))
abbrev mX9_peopleWhoseDelayMayCount : zM := (yX9_peopleWhoseDelayMayCount, cX9_peopleWhoseDelayMayCount, 3, (some .int))
abbrev mX9_commonDivisor : zM := (yX9_commonDivisor, cX9_commonDivisor, 11, (some .long))
abbrev mX9_partOfFraction : zM := (yX9_partOfFraction, cX9_partOfFraction, 7, (some .int))
abbrev mJ6_bitCount_0f7a4 : zM := (yJ6_bitCount_0f7a4, cJ6_bitCount_0f7a4, 1, (some .int))
abbrev mX9_factorial : zM := (yX9_factorial, cX9_factorial, 1, (some .long))
abbrev mX9_lastWhenCome : zM := (yX9_lastWhenCome, cX9_lastWhenCome, 3, (some .int))
abbrev mX9_share : zM := (yX9_share, cX9_share, 13, (some .int))
abbrev mX9_chancesFrom : zM := (yX9_chancesFrom, cX9_chancesFrom, 10, (some .long))
abbrev mX9_chance : zM := (yX9_chance, cX9_chance, 7, (some .int))
abbrev mX9_seed : zM := (yX9_seed, cX9_seed, 5, (some .long))
abbrev mX9_drawDelays : zM := (yX9_drawDelays, cX9_drawDelays, 4, none)
abbrev mX9_drawn : zM := (yX9_drawn, cX9_drawn, 4, (some .int))
abbrev mX9_keep : zM := (yX9_keep, cX9_keep, 2, (some .int))
abbrev mX9_again : zM := (yX9_again, cX9_again, 2, (some .int))
abbrev mX10_init : zM := (yX10_init, cX10_init, 1, none)
abbrev mX10_copy : zM := (yX10_copy, cX10_copy, 3, none)
abbrev mX10_in : zM := (yX10_in, cX10_in, 6, (some .boolean))
abbrev mX10_has : zM := (yX10_has, cX10_has, 2, (some .boolean))
abbrev mX10_ones : zM := (yX10_ones, cX10_ones, 3, (some .int))
abbrev mX10_power : zM := (yX10_power, cX10_power, 4, (some .int))
abbrev mX10_factorial : zM := (yX10_factorial, cX10_factorial, 3, (some .int))
abbrev mX10_fraction : zM := (yX10_fraction, cX10_fraction, 6, (some .int))
abbrev mX10_isPerson : zM := (yX10_isPerson, cX10_isPerson, 2, (some .boolean))
abbrev mX10_write : zM := (yX10_write, cX10_write, 2, (some .int))
abbrev mX10_wipe : zM := (yX10_wipe, cX10_wipe, 2, (some .int))
abbrev mX10_takeHead : zM := (yX10_takeHead, cX10_takeHead, 4, (some .boolean))
abbrev mX10_takePart : zM := (yX10_takePart, cX10_takePart, 4, (some .boolean))
abbrev mX10_readText : zM := (yX10_readText, cX10_readText, 4, (some .int))
abbrev mX10_fault : zM := (yX10_fault, cX10_fault, 1, (some .int))
abbrev mX10_layTold : zM := (yX10_layTold, cX10_layTold, 9, none)
abbrev mX10_layTicks : zM := (yX10_layTicks, cX10_layTicks, 3, none)
abbrev mX10_lastOfNews : zM := (yX10_lastOfNews, cX10_lastOfNews, 5, (some .int))
abbrev mX10_lastOf : zM := (yX10_lastOf, cX10_lastOf, 5, (some .int))
abbrev mX10_telling : zM := (yX10_telling, cX10_telling, 1, (some .int))
abbrev mX10_nextBegin : zM := (yX10_nextBegin, cX10_nextBegin, 3, (some .int))
abbrev mX10_beginOne : zM := (yX10_beginOne, cX10_beginOne, 2, none)
abbrev mX10_tell : zM := (yX10_tell, cX10_tell, 4, (some .int))
abbrev mX10_soonest : zM := (yX10_soonest, cX10_soonest, 5, (some .int))
abbrev mX10_quickest : zM := (yX10_quickest, cX10_quickest, 5, (some .int))
abbrev mX10_quick : zM := (yX10_quick, cX10_quick, 6, none)
abbrev mX10_lateBy : zM := (yX10_lateBy, cX10_lateBy, 10, (some .int))
abbrev mX10_best : zM := (yX10_best, cX10_best, 5, (some .int))
abbrev mX10_about : zM := (yX10_about, cX10_about, 2, (some .int))
abbrev mX10_placeOf : zM := (yX10_placeOf, cX10_placeOf, 4, (some .int))
abbrev mX10_toldBy : zM := (yX10_toldBy, cX10_toldBy, 5, (some .int))
abbrev mX10_slack : zM := (yX10_slack, cX10_slack, 5, (some .int))
abbrev mX10_gathered : zM := (yX10_gathered, cX10_gathered, 3, (some .int))
abbrev mX10_person : zM := (yX10_person, cX10_person, 3, (some .int))
abbrev mX10_plan : zM := (yX10_plan, cX10_plan, 2, (some .int))
abbrev mX10_knows : zM := (yX10_knows, cX10_knows, 3, (some .int))
abbrev mX10_last : zM := (yX10_last, cX10_last, 2, (some .int))
abbrev mX10_note : zM := (yX10_note, cX10_note, 2, none)
abbrev mX10_below : zM := (yX10_below, cX10_below, 6, (some .int))
abbrev mX10_mayMove : zM := (yX10_mayMove, cX10_mayMove, 4, (some .boolean))
abbrev mX10_moveOn : zM := (yX10_moveOn, cX10_moveOn, 9, none)
abbrev mX10_move : zM := (yX10_move, cX10_move, 3, (some .int))
abbrev mX10_isPair : zM := (yX10_isPair, cX10_isPair, 2, (some .boolean))
abbrev mX10_mayChange : zM := (yX10_mayChange, cX10_mayChange, 2, (some .boolean))
abbrev mX10_changeOn : zM := (yX10_changeOn, cX10_changeOn, 3, none)
abbrev mX10_change : zM := (yX10_change, cX10_change, 2, (some .int))
abbrev mX10_quicken : zM := (yX10_quicken, cX10_quicken, 1, (some .int))
abbrev mX10_set : zM := (yX10_set, cX10_set, 7, (some .int))
abbrev mX10_undo : zM := (yX10_undo, cX10_undo, 2, (some .int))
abbrev mX10_layMany : zM := (yX10_layMany, cX10_layMany, 6, none)
abbrev mX10_number : zM := (yX10_number, cX10_number, 3, (some .long))
abbrev mX10_soon : zM := (yX10_soon, cX10_soon, 4, (some .int))
abbrev mX10_knowers : zM := (yX10_knowers, cX10_knowers, 5, (some .int))
abbrev mX10_judged : zM := (yX10_judged, cX10_judged, 4, (some .boolean))
abbrev mX10_thousands : zM := (yX10_thousands, cX10_thousands, 4, (some .long))
abbrev mX10_judge : zM := (yX10_judge, cX10_judge, 6, (some .int))
abbrev mX10_see : zM := (yX10_see, cX10_see, 3, (some .int))
abbrev mX10_unsee : zM := (yX10_unsee, cX10_unsee, 2, (some .int))
abbrev mX10_which : zM := (yX10_which, cX10_which, 6, (some .int))
abbrev mX10_lastBy : zM := (yX10_lastBy, cX10_lastBy, 3, (some .int))
abbrev mX10_share : zM := (yX10_share, cX10_share, 6, (some .int))
abbrev mX10_knowing : zM := (yX10_knowing, cX10_knowing, 5, (some .int))
abbrev mX10_chance : zM := (yX10_chance, cX10_chance, 8, (some .int))
abbrev mX10_seed : zM := (yX10_seed, cX10_seed, 5, (some .long))
abbrev mX10_drawn : zM := (yX10_drawn, cX10_drawn, 6, (some .int))
abbrev mX10_keep : zM := (yX10_keep, cX10_keep, 3, (some .int))
abbrev mX10_again : zM := (yX10_again, cX10_again, 3, (some .int))
abbrev mJ9_abs_067f4 : zM := (yJ9_abs_067f4, cJ9_abs_067f4, 2, (some .long))
abbrev mJ9_max_7cf53 : zM := (yJ9_max_7cf53, cJ9_max_7cf53, 2, (some .int))
abbrev mJ9_min_7cf53 : zM := (yJ9_min_7cf53, cJ9_min_7cf53, 2, (some .int))
theorem zw_0 : Cond.selects "LateLetters$Text" yX7_fits yX7_fits ∈ zW := zmem 0 (by decide +kernel) (by decide +kernel)
theorem zw_1 : Cond.selects "LateLetters$Text" yX7_fitsInHead yX7_fitsInHead ∈ zW := zmem 1 (by decide +kernel) (by decide +kernel)
theorem zw_2 : Cond.selects "LateLetters$Text" yX7_isFigure yX7_isFigure ∈ zW := zmem 2 (by decide +kernel) (by decide +kernel)
theorem zw_3 : Cond.selects "LateLetters$Text" yX7_figureAt yX7_figureAt ∈ zW := zmem 3 (by decide +kernel) (by decide +kernel)
theorem zw_4 : Cond.selects "LateLetters$Text" yX7_planStart yX7_planStart ∈ zW := zmem 4 (by decide +kernel) (by decide +kernel)
theorem zw_5 : Cond.selects "LateLetters$Text" yX7_wholeLength yX7_wholeLength ∈ zW := zmem 5 (by decide +kernel) (by decide +kernel)
theorem zw_6 : Cond.selects "LateLetters$Text" yX7_fitsInPlan yX7_fitsInPlan ∈ zW := zmem 6 (by decide +kernel) (by decide +kernel)
theorem zw_7 : Cond.selects "LateLetters$Text" yX7_stands yX7_stands ∈ zW := zmem 7 (by decide +kernel) (by decide +kernel)
theorem zw_8 : Cond.selects "LateLetters$Times" yX8_send yX8_send ∈ zW := zmem 8 (by decide +kernel) (by decide +kernel)
theorem zw_9 : Cond.selects "LateLetters" yX9_lastIfQuick yX9_lastIfQuick ∈ zW := zmem 9 (by decide +kernel) (by decide +kernel)
theorem zw_10 : Cond.selects "LateLetters$Tellers" yX5_begin yX5_begin ∈ zW := zmem 10 (by decide +kernel) (by decide +kernel)
theorem zw_11 : Cond.selects "LateLetters$Tellers" yX5_soonest yX5_soonest ∈ zW := zmem 11 (by decide +kernel) (by decide +kernel)
theorem zw_12 : Cond.selects "LateLetters$Tellers" yX5_isKnower yX5_isKnower ∈ zW := zmem 12 (by decide +kernel) (by decide +kernel)
theorem zw_13 : Cond.selects "LateLetters$Tellers" yX5_leastDelayed yX5_leastDelayed ∈ zW := zmem 13 (by decide +kernel) (by decide +kernel)
theorem zw_14 : Cond.selects "LateLetters$Tellers" yX5_tell yX5_tell ∈ zW := zmem 14 (by decide +kernel) (by decide +kernel)
theorem zw_15 : Cond.selects "LateLetters$Tellers" yX5_leastLastFrom yX5_leastLastFrom ∈ zW := zmem 15 (by decide +kernel) (by decide +kernel)
theorem zw_16 : Cond.selects "LateLetters$Tellers" yX5_takeBack yX5_takeBack ∈ zW := zmem 16 (by decide +kernel) (by decide +kernel)
theorem zw_17 : Cond.selects "LateLetters" yX9_slackOf yX9_slackOf ∈ zW := zmem 17 (by decide +kernel) (by decide +kernel)
theorem zw_18 : Cond.selects "LateLetters" yX9_gatheredFrom yX9_gatheredFrom ∈ zW := zmem 18 (by decide +kernel) (by decide +kernel)
theorem zw_19 : Cond.selects "LateLetters$Shelf" yX3_placeAt yX3_placeAt ∈ zW := zmem 19 (by decide +kernel) (by decide +kernel)
theorem zw_20 : Cond.selects "LateLetters$Telling" yX6_sendBehindAll yX6_sendBehindAll ∈ zW := zmem 20 (by decide +kernel) (by decide +kernel)
theorem zw_21 : Cond.selects "LateLetters" yX9_readDoings yX9_readDoings ∈ zW := zmem 21 (by decide +kernel) (by decide +kernel)
theorem zw_22 : Cond.selects "LateLetters" yX9_canBe yX9_canBe ∈ zW := zmem 22 (by decide +kernel) (by decide +kernel)
theorem zw_23 : Cond.selects "LateLetters" yX9_canBeMoved yX9_canBeMoved ∈ zW := zmem 23 (by decide +kernel) (by decide +kernel)
theorem zw_24 : Cond.selects "LateLetters" yX9_canBeChanged yX9_canBeChanged ∈ zW := zmem 24 (by decide +kernel) (by decide +kernel)
theorem zw_25 : Cond.selects "LateLetters" yX9_canBeDelayed yX9_canBeDelayed ∈ zW := zmem 25 (by decide +kernel) (by decide +kernel)
theorem zw_26 : Cond.selects "LateLetters" yX9_peopleWhoseDelayMayCount yX9_peopleWhoseDelayMayCount ∈ zW := zmem 26 (by decide +kernel) (by decide +kernel)
theorem zw_27 : Cond.selects "LateLetters" yX9_lastWhenCome yX9_lastWhenCome ∈ zW := zmem 27 (by decide +kernel) (by decide +kernel)
theorem zw_28 : Cond.selects "LateLetters" yX9_chancesFrom yX9_chancesFrom ∈ zW := zmem 28 (by decide +kernel) (by decide +kernel)
theorem zw_29 : Cond.selects "LateLetters" yX9_drawDelays yX9_drawDelays ∈ zW := zmem 29 (by decide +kernel) (by decide +kernel)
theorem zw_30 : Cond.selects "LateLettersModel" yX10_readText yX10_readText ∈ zW := zmem 30 (by decide +kernel) (by decide +kernel)
theorem zw_31 : Cond.selects "LateLettersModel" yX10_takeHead yX10_takeHead ∈ zW := zmem 31 (by decide +kernel) (by decide +kernel)
theorem zw_32 : Cond.selects "LateLettersModel" yX10_takePart yX10_takePart ∈ zW := zmem 32 (by decide +kernel) (by decide +kernel)
theorem zw_33 : Cond.selects "LateLettersModel" yX10_lastOf yX10_lastOf ∈ zW := zmem 33 (by decide +kernel) (by decide +kernel)
theorem zw_34 : Cond.selects "LateLettersModel" yX10_lastOfNews yX10_lastOfNews ∈ zW := zmem 34 (by decide +kernel) (by decide +kernel)
theorem zw_35 : Cond.selects "LateLettersModel" yX10_layTicks yX10_layTicks ∈ zW := zmem 35 (by decide +kernel) (by decide +kernel)
theorem zw_36 : Cond.selects "LateLettersModel" yX10_layTold yX10_layTold ∈ zW := zmem 36 (by decide +kernel) (by decide +kernel)
theorem zw_37 : Cond.selects "LateLettersModel" yX10_quick yX10_quick ∈ zW := zmem 37 (by decide +kernel) (by decide +kernel)
theorem zw_38 : Cond.selects "LateLettersModel" yX10_beginOne yX10_beginOne ∈ zW := zmem 38 (by decide +kernel) (by decide +kernel)
theorem zw_39 : Cond.selects "LateLettersModel" yX10_soonest yX10_soonest ∈ zW := zmem 39 (by decide +kernel) (by decide +kernel)
theorem zw_40 : Cond.selects "LateLettersModel" yX10_nextBegin yX10_nextBegin ∈ zW := zmem 40 (by decide +kernel) (by decide +kernel)
theorem zw_41 : Cond.selects "LateLettersModel" yX10_quickest yX10_quickest ∈ zW := zmem 41 (by decide +kernel) (by decide +kernel)
theorem zw_42 : Cond.selects "LateLettersModel" yX10_tell yX10_tell ∈ zW := zmem 42 (by decide +kernel) (by decide +kernel)
theorem zw_43 : Cond.selects "LateLettersModel" yX10_best yX10_best ∈ zW := zmem 43 (by decide +kernel) (by decide +kernel)
theorem zw_44 : Cond.selects "LateLettersModel" yX10_lateBy yX10_lateBy ∈ zW := zmem 44 (by decide +kernel) (by decide +kernel)
theorem zw_45 : Cond.selects "LateLettersModel" yX10_isPerson yX10_isPerson ∈ zW := zmem 45 (by decide +kernel) (by decide +kernel)
theorem zw_46 : Cond.selects "LateLettersModel" yX10_placeOf yX10_placeOf ∈ zW := zmem 46 (by decide +kernel) (by decide +kernel)
theorem zw_47 : Cond.selects "LateLettersModel" yX10_toldBy yX10_toldBy ∈ zW := zmem 47 (by decide +kernel) (by decide +kernel)
theorem zw_48 : Cond.selects "LateLettersModel" yX10_slack yX10_slack ∈ zW := zmem 48 (by decide +kernel) (by decide +kernel)
theorem zw_49 : Cond.selects "LateLettersModel" yX10_gathered yX10_gathered ∈ zW := zmem 49 (by decide +kernel) (by decide +kernel)
theorem zw_50 : Cond.selects "LateLettersModel" yX10_mayMove yX10_mayMove ∈ zW := zmem 50 (by decide +kernel) (by decide +kernel)
theorem zw_51 : Cond.selects "LateLettersModel" yX10_below yX10_below ∈ zW := zmem 51 (by decide +kernel) (by decide +kernel)
theorem zw_52 : Cond.selects "LateLettersModel" yX10_note yX10_note ∈ zW := zmem 52 (by decide +kernel) (by decide +kernel)
theorem zw_53 : Cond.selects "LateLettersModel" yX10_moveOn yX10_moveOn ∈ zW := zmem 53 (by decide +kernel) (by decide +kernel)
theorem zw_54 : Cond.selects "LateLettersModel" yX10_isPair yX10_isPair ∈ zW := zmem 54 (by decide +kernel) (by decide +kernel)
theorem zw_55 : Cond.selects "LateLettersModel" yX10_layMany yX10_layMany ∈ zW := zmem 55 (by decide +kernel) (by decide +kernel)
theorem zw_56 : Cond.selects "LateLettersModel" yX10_judged yX10_judged ∈ zW := zmem 56 (by decide +kernel) (by decide +kernel)
theorem zw_57 : Cond.selects "LateLettersModel" yX10_lastBy yX10_lastBy ∈ zW := zmem 57 (by decide +kernel) (by decide +kernel)
theorem zw_58 : Cond.selects "LateLettersModel" yX10_knowing yX10_knowing ∈ zW := zmem 58 (by decide +kernel) (by decide +kernel)
theorem zw_59 : Cond.initialized "LateLettersLaw" ∈ zW := zmem 59 (by decide +kernel) (by decide +kernel)
theorem zw_60 : Cond.initialized "LateLetters" ∈ zW := zmem 60 (by decide +kernel) (by decide +kernel)
theorem zw_61 : Cond.initialized "LateLetters$Telling" ∈ zW := zmem 61 (by decide +kernel) (by decide +kernel)
theorem zw_62 : Cond.initialized "LateLetters$Times" ∈ zW := zmem 62 (by decide +kernel) (by decide +kernel)
theorem zw_63 : Cond.initialized "LateLetters$Tellers" ∈ zW := zmem 63 (by decide +kernel) (by decide +kernel)
theorem zw_64 : Cond.initialized "LateLetters$Numbers" ∈ zW := zmem 64 (by decide +kernel) (by decide +kernel)
theorem zw_65 : Cond.initialized "LateLetters$Text" ∈ zW := zmem 65 (by decide +kernel) (by decide +kernel)
theorem zw_66 : Cond.initialized "LateLetters$Acts" ∈ zW := zmem 66 (by decide +kernel) (by decide +kernel)
theorem zw_67 : Cond.initialized "LateLetters$Shelf" ∈ zW := zmem 67 (by decide +kernel) (by decide +kernel)
theorem zw_68 : Cond.initialized "java/lang/Math" ∈ zW := zmem 68 (by decide +kernel) (by decide +kernel)
theorem zw_69 : Cond.initialized "LateLetters$Slots" ∈ zW := zmem 69 (by decide +kernel) (by decide +kernel)
theorem zw_70 : Cond.initialized "LateLetters$Seen" ∈ zW := zmem 70 (by decide +kernel) (by decide +kernel)
theorem zw_71 : Cond.initialized "LateLettersModel" ∈ zW := zmem 71 (by decide +kernel) (by decide +kernel)
theorem zw_72 : Cond.initialized "java/lang/System" ∈ zW := zmem 72 (by decide +kernel) (by decide +kernel)
theorem zw_73 : Cond.initialized "java/lang/Integer" ∈ zW := zmem 73 (by decide +kernel) (by decide +kernel)
theorem zw_74 : Cond.classLink "LateLettersLaw" 7 "LateLetters" ∈ zW := zmem 74 (by decide +kernel) (by decide +kernel)
theorem zw_75 : Cond.instantiable "LateLetters" 11 ∈ zW := zmem 75 (by decide +kernel) (by decide +kernel)
theorem zw_76 : Cond.methodLink "LateLettersLaw" 9 yX9_init ∈ zW := zmem 76 (by decide +kernel) (by decide +kernel)
theorem zw_77 : Cond.instanceMethod yX9_init ∈ zW := zmem 77 (by decide +kernel) (by decide +kernel)
theorem zw_78 : Cond.code yX9_init cX9_init 1 none ∈ zW := zmem 78 (by decide +kernel) (by decide +kernel)
theorem zw_79 : Cond.methodLink "LateLetters" 1 Lib.objectInit ∈ zW := zmem 79 (by decide +kernel) (by decide +kernel)
theorem zw_80 : Cond.instanceMethod Lib.objectInit ∈ zW := zmem 80 (by decide +kernel) (by decide +kernel)
theorem zw_81 : Cond.code Lib.objectInit ⟨#[0xb1]⟩ 1 none ∈ zW := zmem 81 (by decide +kernel) (by decide +kernel)
theorem zw_82 : Cond.classLink "LateLetters" 7 "LateLetters$Telling" ∈ zW := zmem 82 (by decide +kernel) (by decide +kernel)
theorem zw_83 : Cond.instantiable "LateLetters$Telling" 7 ∈ zW := zmem 83 (by decide +kernel) (by decide +kernel)
theorem zw_84 : Cond.methodLink "LateLetters" 9 yX6_init ∈ zW := zmem 84 (by decide +kernel) (by decide +kernel)
theorem zw_85 : Cond.instanceMethod yX6_init ∈ zW := zmem 85 (by decide +kernel) (by decide +kernel)
theorem zw_86 : Cond.code yX6_init cX6_init 1 none ∈ zW := zmem 86 (by decide +kernel) (by decide +kernel)
theorem zw_87 : Cond.methodLink "LateLetters$Telling" 3 Lib.objectInit ∈ zW := zmem 87 (by decide +kernel) (by decide +kernel)
theorem zw_88 : Cond.fieldLink "LateLetters$Telling" 24 "LateLetters$Telling" "people" "I" ∈ zW := zmem 88 (by decide +kernel) (by decide +kernel)
theorem zw_89 : Cond.fieldLink "LateLetters$Telling" 28 "LateLetters$Telling" "news" "I" ∈ zW := zmem 89 (by decide +kernel) (by decide +kernel)
theorem zw_90 : Cond.fieldLink "LateLetters$Telling" 31 "LateLetters$Telling" "standing" "I" ∈ zW := zmem 90 (by decide +kernel) (by decide +kernel)
theorem zw_91 : Cond.fieldLink "LateLetters$Telling" 9 "LateLetters$Telling" "delays" "[I" ∈ zW := zmem 91 (by decide +kernel) (by decide +kernel)
theorem zw_92 : Cond.fieldLink "LateLetters$Telling" 15 "LateLetters$Telling" "gaps" "[I" ∈ zW := zmem 92 (by decide +kernel) (by decide +kernel)
theorem zw_93 : Cond.fieldLink "LateLetters$Telling" 18 "LateLetters$Telling" "tellerRow" "[I" ∈ zW := zmem 93 (by decide +kernel) (by decide +kernel)
theorem zw_94 : Cond.fieldLink "LateLetters$Telling" 21 "LateLetters$Telling" "planRow" "[I" ∈ zW := zmem 94 (by decide +kernel) (by decide +kernel)
theorem zw_110 : Cond.arrayClass (newarray.typeOf .int) ∈ zW := zmem 110 (by decide +kernel) (by decide +kernel)
theorem zw_111 : Cond.classLink "LateLetters" 19 "LateLetters$Times" ∈ zW := zmem 111 (by decide +kernel) (by decide +kernel)
theorem zw_112 : Cond.instantiable "LateLetters$Times" 2 ∈ zW := zmem 112 (by decide +kernel) (by decide +kernel)
theorem zn_113 : Cond.methodLinkNest "LateLetters" 21 yX8_init "LateLetters" ∈ lw_tbl := List.mem_of_getElem? (i := 113) (by decide +kernel)
theorem zw_114 : Cond.instanceMethod yX8_init ∈ zW := zmem 114 (by decide +kernel) (by decide +kernel)
theorem zw_115 : Cond.code yX8_init cX8_init 1 none ∈ zW := zmem 115 (by decide +kernel) (by decide +kernel)
theorem zw_116 : Cond.methodLink "LateLetters$Times" 3 Lib.objectInit ∈ zW := zmem 116 (by decide +kernel) (by decide +kernel)
theorem zw_117 : Cond.fieldLink "LateLetters$Times" 9 "LateLetters$Times" "ticks" "[I" ∈ zW := zmem 117 (by decide +kernel) (by decide +kernel)
theorem zw_118 : Cond.fieldLink "LateLetters$Times" 15 "LateLetters$Times" "freeFrom" "[I" ∈ zW := zmem 118 (by decide +kernel) (by decide +kernel)
theorem zw_124 : Cond.classLink "LateLetters" 26 "LateLetters$Tellers" ∈ zW := zmem 124 (by decide +kernel) (by decide +kernel)
theorem zw_125 : Cond.instantiable "LateLetters$Tellers" 2 ∈ zW := zmem 125 (by decide +kernel) (by decide +kernel)
theorem zn_126 : Cond.methodLinkNest "LateLetters" 28 yX5_init "LateLetters" ∈ lw_tbl := List.mem_of_getElem? (i := 126) (by decide +kernel)
theorem zw_127 : Cond.instanceMethod yX5_init ∈ zW := zmem 127 (by decide +kernel) (by decide +kernel)
theorem zw_128 : Cond.code yX5_init cX5_init 1 none ∈ zW := zmem 128 (by decide +kernel) (by decide +kernel)
theorem zw_129 : Cond.methodLink "LateLetters$Tellers" 3 Lib.objectInit ∈ zW := zmem 129 (by decide +kernel) (by decide +kernel)
theorem zw_130 : Cond.fieldLink "LateLetters$Tellers" 9 "LateLetters$Tellers" "nextThere" "[I" ∈ zW := zmem 130 (by decide +kernel) (by decide +kernel)
theorem zw_131 : Cond.fieldLink "LateLetters$Tellers" 64 "LateLetters$Tellers" "knowers" "I" ∈ zW := zmem 131 (by decide +kernel) (by decide +kernel)
theorem zw_137 : Cond.classLink "LateLetters" 33 "LateLetters$Numbers" ∈ zW := zmem 137 (by decide +kernel) (by decide +kernel)
theorem zw_138 : Cond.instantiable "LateLetters$Numbers" 1 ∈ zW := zmem 138 (by decide +kernel) (by decide +kernel)
theorem zn_139 : Cond.methodLinkNest "LateLetters" 35 yX1_init "LateLetters" ∈ lw_tbl := List.mem_of_getElem? (i := 139) (by decide +kernel)
theorem zw_140 : Cond.instanceMethod yX1_init ∈ zW := zmem 140 (by decide +kernel) (by decide +kernel)
theorem zw_141 : Cond.code yX1_init cX1_init 1 none ∈ zW := zmem 141 (by decide +kernel) (by decide +kernel)
theorem zw_142 : Cond.methodLink "LateLetters$Numbers" 3 Lib.objectInit ∈ zW := zmem 142 (by decide +kernel) (by decide +kernel)
theorem zw_143 : Cond.fieldLink "LateLetters$Numbers" 9 "LateLetters$Numbers" "byTick" "[J" ∈ zW := zmem 143 (by decide +kernel) (by decide +kernel)
theorem zw_147 : Cond.arrayClass (newarray.typeOf .long) ∈ zW := zmem 147 (by decide +kernel) (by decide +kernel)
theorem zw_148 : Cond.classLink "LateLetters" 40 "LateLetters$Text" ∈ zW := zmem 148 (by decide +kernel) (by decide +kernel)
theorem zw_149 : Cond.instantiable "LateLetters$Text" 2 ∈ zW := zmem 149 (by decide +kernel) (by decide +kernel)
theorem zn_150 : Cond.methodLinkNest "LateLetters" 42 yX7_init "LateLetters" ∈ lw_tbl := List.mem_of_getElem? (i := 150) (by decide +kernel)
theorem zw_151 : Cond.instanceMethod yX7_init ∈ zW := zmem 151 (by decide +kernel) (by decide +kernel)
theorem zw_152 : Cond.code yX7_init cX7_init 1 none ∈ zW := zmem 152 (by decide +kernel) (by decide +kernel)
theorem zw_153 : Cond.methodLink "LateLetters$Text" 3 Lib.objectInit ∈ zW := zmem 153 (by decide +kernel) (by decide +kernel)
theorem zw_154 : Cond.fieldLink "LateLetters$Text" 9 "LateLetters$Text" "letters" "[I" ∈ zW := zmem 154 (by decide +kernel) (by decide +kernel)
theorem zw_155 : Cond.fieldLink "LateLetters$Text" 15 "LateLetters$Text" "length" "I" ∈ zW := zmem 155 (by decide +kernel) (by decide +kernel)
theorem zw_161 : Cond.classLink "LateLetters" 47 "LateLetters$Acts" ∈ zW := zmem 161 (by decide +kernel) (by decide +kernel)
theorem zw_162 : Cond.instantiable "LateLetters$Acts" 3 ∈ zW := zmem 162 (by decide +kernel) (by decide +kernel)
theorem zn_163 : Cond.methodLinkNest "LateLetters" 49 yX0_init "LateLetters" ∈ lw_tbl := List.mem_of_getElem? (i := 163) (by decide +kernel)
theorem zw_164 : Cond.instanceMethod yX0_init ∈ zW := zmem 164 (by decide +kernel) (by decide +kernel)
theorem zw_165 : Cond.code yX0_init cX0_init 1 none ∈ zW := zmem 165 (by decide +kernel) (by decide +kernel)
theorem zw_166 : Cond.methodLink "LateLetters$Acts" 3 Lib.objectInit ∈ zW := zmem 166 (by decide +kernel) (by decide +kernel)
theorem zw_167 : Cond.classLink "LateLetters$Acts" 9 "LateLetters$Shelf" ∈ zW := zmem 167 (by decide +kernel) (by decide +kernel)
theorem zw_168 : Cond.instantiable "LateLetters$Shelf" 1 ∈ zW := zmem 168 (by decide +kernel) (by decide +kernel)
theorem zw_169 : Cond.methodLink "LateLetters$Acts" 11 yX3_init ∈ zW := zmem 169 (by decide +kernel) (by decide +kernel)
theorem zw_170 : Cond.instanceMethod yX3_init ∈ zW := zmem 170 (by decide +kernel) (by decide +kernel)
theorem zw_171 : Cond.code yX3_init cX3_init 3 none ∈ zW := zmem 171 (by decide +kernel) (by decide +kernel)
theorem zw_172 : Cond.methodLink "LateLetters$Shelf" 1 Lib.objectInit ∈ zW := zmem 172 (by decide +kernel) (by decide +kernel)
theorem zw_173 : Cond.methodLink "LateLetters$Shelf" 7 Lib.Math.max.name ∈ zW := zmem 173 (by decide +kernel) (by decide +kernel)
theorem zw_174 : Cond.static Lib.Math.max.name ∈ zW := zmem 174 (by decide +kernel) (by decide +kernel)
theorem zw_175 : Cond.code Lib.Math.max.name Lib.Math.max.code 2 (some .int) ∈ zW := zmem 175 (by decide +kernel) (by decide +kernel)
theorem zw_176 : Cond.classLink "LateLetters$Shelf" 13 "LateLetters$Telling" ∈ zW := zmem 176 (by decide +kernel) (by decide +kernel)
theorem zw_178 : Cond.methodLink "LateLetters$Shelf" 21 yX6_init ∈ zW := zmem 178 (by decide +kernel) (by decide +kernel)
theorem zw_179 : Cond.fieldLink "LateLetters$Shelf" 15 "LateLetters$Shelf" "places" "[LLateLetters$Telling;" ∈ zW := zmem 179 (by decide +kernel) (by decide +kernel)
theorem zw_183 : Cond.fieldLink "LateLetters$Acts" 14 "LateLetters$Acts" "before" "LLateLetters$Shelf;" ∈ zW := zmem 183 (by decide +kernel) (by decide +kernel)
theorem zw_184 : Cond.fieldLink "LateLetters$Acts" 24 "LateLetters$Acts" "first" "I" ∈ zW := zmem 184 (by decide +kernel) (by decide +kernel)
theorem zw_185 : Cond.fieldLink "LateLetters$Acts" 20 "LateLetters$Acts" "count" "I" ∈ zW := zmem 185 (by decide +kernel) (by decide +kernel)
theorem zw_193 : Cond.classLink "LateLetters" 54 "LateLetters$Slots" ∈ zW := zmem 193 (by decide +kernel) (by decide +kernel)
theorem zw_194 : Cond.instantiable "LateLetters$Slots" 2 ∈ zW := zmem 194 (by decide +kernel) (by decide +kernel)
theorem zn_195 : Cond.methodLinkNest "LateLetters" 56 yX4_init "LateLetters" ∈ lw_tbl := List.mem_of_getElem? (i := 195) (by decide +kernel)
theorem zw_196 : Cond.instanceMethod yX4_init ∈ zW := zmem 196 (by decide +kernel) (by decide +kernel)
theorem zw_197 : Cond.code yX4_init cX4_init 1 none ∈ zW := zmem 197 (by decide +kernel) (by decide +kernel)
theorem zw_198 : Cond.methodLink "LateLetters$Slots" 3 Lib.objectInit ∈ zW := zmem 198 (by decide +kernel) (by decide +kernel)
theorem zw_199 : Cond.classLink "LateLetters$Slots" 9 "LateLetters$Shelf" ∈ zW := zmem 199 (by decide +kernel) (by decide +kernel)
theorem zw_200 : Cond.methodLink "LateLetters$Slots" 11 yX3_init ∈ zW := zmem 200 (by decide +kernel) (by decide +kernel)
theorem zw_201 : Cond.fieldLink "LateLetters$Slots" 14 "LateLetters$Slots" "kept" "LLateLetters$Shelf;" ∈ zW := zmem 201 (by decide +kernel) (by decide +kernel)
theorem zw_202 : Cond.fieldLink "LateLetters$Slots" 20 "LateLetters$Slots" "filled" "I" ∈ zW := zmem 202 (by decide +kernel) (by decide +kernel)
theorem zw_208 : Cond.classLink "LateLetters" 61 "LateLetters$Seen" ∈ zW := zmem 208 (by decide +kernel) (by decide +kernel)
theorem zw_209 : Cond.instantiable "LateLetters$Seen" 3 ∈ zW := zmem 209 (by decide +kernel) (by decide +kernel)
theorem zn_210 : Cond.methodLinkNest "LateLetters" 63 yX2_init "LateLetters" ∈ lw_tbl := List.mem_of_getElem? (i := 210) (by decide +kernel)
theorem zw_211 : Cond.instanceMethod yX2_init ∈ zW := zmem 211 (by decide +kernel) (by decide +kernel)
theorem zw_212 : Cond.code yX2_init cX2_init 1 none ∈ zW := zmem 212 (by decide +kernel) (by decide +kernel)
theorem zw_213 : Cond.methodLink "LateLetters$Seen" 3 Lib.objectInit ∈ zW := zmem 213 (by decide +kernel) (by decide +kernel)
theorem zw_214 : Cond.fieldLink "LateLetters$Seen" 9 "LateLetters$Seen" "people" "[I" ∈ zW := zmem 214 (by decide +kernel) (by decide +kernel)
theorem zw_215 : Cond.fieldLink "LateLetters$Seen" 15 "LateLetters$Seen" "ticks" "[I" ∈ zW := zmem 215 (by decide +kernel) (by decide +kernel)
theorem zw_216 : Cond.fieldLink "LateLetters$Seen" 18 "LateLetters$Seen" "count" "I" ∈ zW := zmem 216 (by decide +kernel) (by decide +kernel)
theorem zw_224 : Cond.fieldLink "LateLetters" 10 "LateLetters" "now" "LLateLetters$Telling;" ∈ zW := zmem 224 (by decide +kernel) (by decide +kernel)
theorem zw_225 : Cond.fieldLink "LateLetters" 16 "LateLetters" "supposed" "LLateLetters$Telling;" ∈ zW := zmem 225 (by decide +kernel) (by decide +kernel)
theorem zw_226 : Cond.fieldLink "LateLetters" 22 "LateLetters" "times" "LLateLetters$Times;" ∈ zW := zmem 226 (by decide +kernel) (by decide +kernel)
theorem zw_227 : Cond.fieldLink "LateLetters" 29 "LateLetters" "tellers" "LLateLetters$Tellers;" ∈ zW := zmem 227 (by decide +kernel) (by decide +kernel)
theorem zw_228 : Cond.fieldLink "LateLetters" 36 "LateLetters" "numbers" "LLateLetters$Numbers;" ∈ zW := zmem 228 (by decide +kernel) (by decide +kernel)
theorem zw_229 : Cond.fieldLink "LateLetters" 43 "LateLetters" "text" "LLateLetters$Text;" ∈ zW := zmem 229 (by decide +kernel) (by decide +kernel)
theorem zw_230 : Cond.fieldLink "LateLetters" 50 "LateLetters" "acts" "LLateLetters$Acts;" ∈ zW := zmem 230 (by decide +kernel) (by decide +kernel)
theorem zw_231 : Cond.fieldLink "LateLetters" 57 "LateLetters" "slots" "LLateLetters$Slots;" ∈ zW := zmem 231 (by decide +kernel) (by decide +kernel)
theorem zw_232 : Cond.fieldLink "LateLetters" 64 "LateLetters" "seen" "LLateLetters$Seen;" ∈ zW := zmem 232 (by decide +kernel) (by decide +kernel)
theorem zw_233 : Cond.fieldLink "LateLetters" 68 "LateLetters" "doings" "[I" ∈ zW := zmem 233 (by decide +kernel) (by decide +kernel)
theorem zw_234 : Cond.fieldLink "LateLetters" 255 "LateLetters" "theSeed" "J" ∈ zW := zmem 234 (by decide +kernel) (by decide +kernel)
theorem zw_258 : Cond.methodLink "LateLettersLaw" 13 yX9_write ∈ zW := zmem 258 (by decide +kernel) (by decide +kernel)
theorem zw_259 : Cond.instanceMethod yX9_write ∈ zW := zmem 259 (by decide +kernel) (by decide +kernel)
theorem zw_260 : Cond.selects "LateLetters" yX9_write yX9_write ∈ zW := zmem 260 (by decide +kernel) (by decide +kernel)
theorem zw_261 : Cond.code yX9_write cX9_write 2 (some .int) ∈ zW := zmem 261 (by decide +kernel) (by decide +kernel)
theorem zw_262 : Cond.methodLink "LateLetters" 72 yX7_add ∈ zW := zmem 262 (by decide +kernel) (by decide +kernel)
theorem zw_263 : Cond.instanceMethod yX7_add ∈ zW := zmem 263 (by decide +kernel) (by decide +kernel)
theorem zw_264 : Cond.selects "LateLetters$Text" yX7_add yX7_add ∈ zW := zmem 264 (by decide +kernel) (by decide +kernel)
theorem zw_265 : Cond.code yX7_add cX7_add 2 (some .boolean) ∈ zW := zmem 265 (by decide +kernel) (by decide +kernel)
theorem zn_266 : Cond.methodLinkNest "LateLetters$Text" 19 yX9_put "LateLetters" ∈ lw_tbl := List.mem_of_getElem? (i := 266) (by decide +kernel)
theorem zw_267 : Cond.static yX9_put ∈ zW := zmem 267 (by decide +kernel) (by decide +kernel)
theorem zw_268 : Cond.code yX9_put cX9_put 3 none ∈ zW := zmem 268 (by decide +kernel) (by decide +kernel)
theorem zw_269 : Cond.methodLink "LateLetters" 76 yX7_length ∈ zW := zmem 269 (by decide +kernel) (by decide +kernel)
theorem zw_270 : Cond.instanceMethod yX7_length ∈ zW := zmem 270 (by decide +kernel) (by decide +kernel)
theorem zw_271 : Cond.selects "LateLetters$Text" yX7_length yX7_length ∈ zW := zmem 271 (by decide +kernel) (by decide +kernel)
theorem zw_272 : Cond.code yX7_length cX7_length 1 (some .int) ∈ zW := zmem 272 (by decide +kernel) (by decide +kernel)
theorem zw_273 : Cond.methodLink "LateLettersLaw" 18 yX9_wipe ∈ zW := zmem 273 (by decide +kernel) (by decide +kernel)
theorem zw_274 : Cond.instanceMethod yX9_wipe ∈ zW := zmem 274 (by decide +kernel) (by decide +kernel)
theorem zw_275 : Cond.selects "LateLetters" yX9_wipe yX9_wipe ∈ zW := zmem 275 (by decide +kernel) (by decide +kernel)
theorem zw_276 : Cond.code yX9_wipe cX9_wipe 2 (some .int) ∈ zW := zmem 276 (by decide +kernel) (by decide +kernel)
theorem zw_277 : Cond.methodLink "LateLetters" 80 yX7_clear ∈ zW := zmem 277 (by decide +kernel) (by decide +kernel)
theorem zw_278 : Cond.instanceMethod yX7_clear ∈ zW := zmem 278 (by decide +kernel) (by decide +kernel)
theorem zw_279 : Cond.selects "LateLetters$Text" yX7_clear yX7_clear ∈ zW := zmem 279 (by decide +kernel) (by decide +kernel)
theorem zw_280 : Cond.code yX7_clear cX7_clear 1 none ∈ zW := zmem 280 (by decide +kernel) (by decide +kernel)
theorem zw_281 : Cond.methodLink "LateLettersLaw" 23 yX9_fault ∈ zW := zmem 281 (by decide +kernel) (by decide +kernel)
theorem zw_282 : Cond.instanceMethod yX9_fault ∈ zW := zmem 282 (by decide +kernel) (by decide +kernel)
theorem zw_283 : Cond.selects "LateLetters" yX9_fault yX9_fault ∈ zW := zmem 283 (by decide +kernel) (by decide +kernel)
theorem zw_284 : Cond.code yX9_fault cX9_fault 1 (some .int) ∈ zW := zmem 284 (by decide +kernel) (by decide +kernel)
theorem zw_285 : Cond.methodLink "LateLetters" 83 yX7_firstFault ∈ zW := zmem 285 (by decide +kernel) (by decide +kernel)
theorem zw_286 : Cond.instanceMethod yX7_firstFault ∈ zW := zmem 286 (by decide +kernel) (by decide +kernel)
theorem zw_287 : Cond.selects "LateLetters$Text" yX7_firstFault yX7_firstFault ∈ zW := zmem 287 (by decide +kernel) (by decide +kernel)
theorem zw_288 : Cond.code yX7_firstFault cX7_firstFault 2 (some .int) ∈ zW := zmem 288 (by decide +kernel) (by decide +kernel)
theorem zw_289 : Cond.methodLink "LateLetters$Text" 23 yX7_fits ∈ zW := zmem 289 (by decide +kernel) (by decide +kernel)
theorem zw_291 : Cond.instanceMethod yX7_fits ∈ zW := zmem 291 (by decide +kernel) (by decide +kernel)
theorem zw_292 : Cond.code yX7_fits cX7_fits 3 (some .boolean) ∈ zW := zmem 292 (by decide +kernel) (by decide +kernel)
theorem zw_293 : Cond.methodLink "LateLetters$Text" 57 yX7_fitsInHead ∈ zW := zmem 293 (by decide +kernel) (by decide +kernel)
theorem zw_295 : Cond.instanceMethod yX7_fitsInHead ∈ zW := zmem 295 (by decide +kernel) (by decide +kernel)
theorem zw_296 : Cond.code yX7_fitsInHead cX7_fitsInHead 2 (some .boolean) ∈ zW := zmem 296 (by decide +kernel) (by decide +kernel)
theorem zw_297 : Cond.methodLink "LateLetters$Text" 60 yX7_isFigure ∈ zW := zmem 297 (by decide +kernel) (by decide +kernel)
theorem zw_299 : Cond.instanceMethod yX7_isFigure ∈ zW := zmem 299 (by decide +kernel) (by decide +kernel)
theorem zw_300 : Cond.code yX7_isFigure cX7_isFigure 5 (some .boolean) ∈ zW := zmem 300 (by decide +kernel) (by decide +kernel)
theorem zw_301 : Cond.methodLink "LateLetters$Text" 31 yX7_figureAt ∈ zW := zmem 301 (by decide +kernel) (by decide +kernel)
theorem zw_303 : Cond.instanceMethod yX7_figureAt ∈ zW := zmem 303 (by decide +kernel) (by decide +kernel)
theorem zw_304 : Cond.code yX7_figureAt cX7_figureAt 2 (some .int) ∈ zW := zmem 304 (by decide +kernel) (by decide +kernel)
theorem zn_305 : Cond.methodLinkNest "LateLetters$Text" 53 yX9_at "LateLetters" ∈ lw_tbl := List.mem_of_getElem? (i := 305) (by decide +kernel)
theorem zw_306 : Cond.static yX9_at ∈ zW := zmem 306 (by decide +kernel) (by decide +kernel)
theorem zw_307 : Cond.code yX9_at cX9_at 2 (some .int) ∈ zW := zmem 307 (by decide +kernel) (by decide +kernel)
theorem zw_308 : Cond.methodLink "LateLetters$Text" 47 yX7_planStart ∈ zW := zmem 308 (by decide +kernel) (by decide +kernel)
theorem zw_310 : Cond.instanceMethod yX7_planStart ∈ zW := zmem 310 (by decide +kernel) (by decide +kernel)
theorem zw_311 : Cond.code yX7_planStart cX7_planStart 1 (some .int) ∈ zW := zmem 311 (by decide +kernel) (by decide +kernel)
theorem zw_312 : Cond.methodLink "LateLetters$Text" 27 yX7_wholeLength ∈ zW := zmem 312 (by decide +kernel) (by decide +kernel)
theorem zw_314 : Cond.instanceMethod yX7_wholeLength ∈ zW := zmem 314 (by decide +kernel) (by decide +kernel)
theorem zw_315 : Cond.code yX7_wholeLength cX7_wholeLength 1 (some .int) ∈ zW := zmem 315 (by decide +kernel) (by decide +kernel)
theorem zw_316 : Cond.methodLink "LateLetters$Text" 64 yX7_fitsInPlan ∈ zW := zmem 316 (by decide +kernel) (by decide +kernel)
theorem zw_318 : Cond.instanceMethod yX7_fitsInPlan ∈ zW := zmem 318 (by decide +kernel) (by decide +kernel)
theorem zw_319 : Cond.code yX7_fitsInPlan cX7_fitsInPlan 4 (some .boolean) ∈ zW := zmem 319 (by decide +kernel) (by decide +kernel)
theorem zw_320 : Cond.methodLink "LateLetters$Text" 68 yX7_stands ∈ zW := zmem 320 (by decide +kernel) (by decide +kernel)
theorem zw_322 : Cond.instanceMethod yX7_stands ∈ zW := zmem 322 (by decide +kernel) (by decide +kernel)
theorem zw_323 : Cond.code yX7_stands cX7_stands 5 (some .boolean) ∈ zW := zmem 323 (by decide +kernel) (by decide +kernel)
theorem zw_324 : Cond.methodLink "LateLettersLaw" 27 yX9_telling ∈ zW := zmem 324 (by decide +kernel) (by decide +kernel)
theorem zw_325 : Cond.instanceMethod yX9_telling ∈ zW := zmem 325 (by decide +kernel) (by decide +kernel)
theorem zw_326 : Cond.selects "LateLetters" yX9_telling yX9_telling ∈ zW := zmem 326 (by decide +kernel) (by decide +kernel)
theorem zw_327 : Cond.code yX9_telling cX9_telling 1 (some .int) ∈ zW := zmem 327 (by decide +kernel) (by decide +kernel)
theorem zw_328 : Cond.methodLink "LateLetters" 86 yX7_tellInto ∈ zW := zmem 328 (by decide +kernel) (by decide +kernel)
theorem zw_329 : Cond.instanceMethod yX7_tellInto ∈ zW := zmem 329 (by decide +kernel) (by decide +kernel)
theorem zw_330 : Cond.selects "LateLetters$Text" yX7_tellInto yX7_tellInto ∈ zW := zmem 330 (by decide +kernel) (by decide +kernel)
theorem zw_331 : Cond.code yX7_tellInto cX7_tellInto 4 none ∈ zW := zmem 331 (by decide +kernel) (by decide +kernel)
theorem zw_332 : Cond.methodLink "LateLetters$Text" 35 yX6_startWith ∈ zW := zmem 332 (by decide +kernel) (by decide +kernel)
theorem zw_333 : Cond.instanceMethod yX6_startWith ∈ zW := zmem 333 (by decide +kernel) (by decide +kernel)
theorem zw_334 : Cond.selects "LateLetters$Telling" yX6_startWith yX6_startWith ∈ zW := zmem 334 (by decide +kernel) (by decide +kernel)
theorem zw_335 : Cond.code yX6_startWith cX6_startWith 3 none ∈ zW := zmem 335 (by decide +kernel) (by decide +kernel)
theorem zw_336 : Cond.methodLink "LateLetters$Text" 41 yX6_setDelay ∈ zW := zmem 336 (by decide +kernel) (by decide +kernel)
theorem zw_337 : Cond.instanceMethod yX6_setDelay ∈ zW := zmem 337 (by decide +kernel) (by decide +kernel)
theorem zw_338 : Cond.selects "LateLetters$Telling" yX6_setDelay yX6_setDelay ∈ zW := zmem 338 (by decide +kernel) (by decide +kernel)
theorem zw_339 : Cond.code yX6_setDelay cX6_setDelay 3 none ∈ zW := zmem 339 (by decide +kernel) (by decide +kernel)
theorem zn_340 : Cond.methodLinkNest "LateLetters$Telling" 40 yX9_put "LateLetters" ∈ lw_tbl := List.mem_of_getElem? (i := 340) (by decide +kernel)
theorem zw_341 : Cond.methodLink "LateLetters$Text" 44 yX6_setGap ∈ zW := zmem 341 (by decide +kernel) (by decide +kernel)
theorem zw_342 : Cond.instanceMethod yX6_setGap ∈ zW := zmem 342 (by decide +kernel) (by decide +kernel)
theorem zw_343 : Cond.selects "LateLetters$Telling" yX6_setGap yX6_setGap ∈ zW := zmem 343 (by decide +kernel) (by decide +kernel)
theorem zw_344 : Cond.code yX6_setGap cX6_setGap 3 none ∈ zW := zmem 344 (by decide +kernel) (by decide +kernel)
theorem zw_345 : Cond.methodLink "LateLetters$Text" 50 yX6_putLast ∈ zW := zmem 345 (by decide +kernel) (by decide +kernel)
theorem zw_346 : Cond.instanceMethod yX6_putLast ∈ zW := zmem 346 (by decide +kernel) (by decide +kernel)
theorem zw_347 : Cond.selects "LateLetters$Telling" yX6_putLast yX6_putLast ∈ zW := zmem 347 (by decide +kernel) (by decide +kernel)
theorem zw_348 : Cond.code yX6_putLast cX6_putLast 3 none ∈ zW := zmem 348 (by decide +kernel) (by decide +kernel)
theorem zw_349 : Cond.methodLink "LateLetters" 90 yX0_forgetAll ∈ zW := zmem 349 (by decide +kernel) (by decide +kernel)
theorem zw_350 : Cond.instanceMethod yX0_forgetAll ∈ zW := zmem 350 (by decide +kernel) (by decide +kernel)
theorem zw_351 : Cond.selects "LateLetters$Acts" yX0_forgetAll yX0_forgetAll ∈ zW := zmem 351 (by decide +kernel) (by decide +kernel)
theorem zw_352 : Cond.code yX0_forgetAll cX0_forgetAll 1 none ∈ zW := zmem 352 (by decide +kernel) (by decide +kernel)
theorem zw_353 : Cond.methodLink "LateLetters" 93 yX4_forgetAll ∈ zW := zmem 353 (by decide +kernel) (by decide +kernel)
theorem zw_354 : Cond.instanceMethod yX4_forgetAll ∈ zW := zmem 354 (by decide +kernel) (by decide +kernel)
theorem zw_355 : Cond.selects "LateLetters$Slots" yX4_forgetAll yX4_forgetAll ∈ zW := zmem 355 (by decide +kernel) (by decide +kernel)
theorem zw_356 : Cond.code yX4_forgetAll cX4_forgetAll 1 none ∈ zW := zmem 356 (by decide +kernel) (by decide +kernel)
theorem zw_357 : Cond.methodLink "LateLetters" 94 yX8_follow ∈ zW := zmem 357 (by decide +kernel) (by decide +kernel)
theorem zw_358 : Cond.instanceMethod yX8_follow ∈ zW := zmem 358 (by decide +kernel) (by decide +kernel)
theorem zw_359 : Cond.selects "LateLetters$Times" yX8_follow yX8_follow ∈ zW := zmem 359 (by decide +kernel) (by decide +kernel)
theorem zw_360 : Cond.code yX8_follow cX8_follow 5 (some .int) ∈ zW := zmem 360 (by decide +kernel) (by decide +kernel)
theorem zn_361 : Cond.methodLinkNest "LateLetters$Times" 18 yX9_put "LateLetters" ∈ lw_tbl := List.mem_of_getElem? (i := 361) (by decide +kernel)
theorem zw_362 : Cond.methodLink "LateLetters$Times" 22 yX6_news ∈ zW := zmem 362 (by decide +kernel) (by decide +kernel)
theorem zw_363 : Cond.instanceMethod yX6_news ∈ zW := zmem 363 (by decide +kernel) (by decide +kernel)
theorem zw_364 : Cond.selects "LateLetters$Telling" yX6_news yX6_news ∈ zW := zmem 364 (by decide +kernel) (by decide +kernel)
theorem zw_365 : Cond.code yX6_news cX6_news 1 (some .int) ∈ zW := zmem 365 (by decide +kernel) (by decide +kernel)
theorem zw_366 : Cond.methodLink "LateLetters$Times" 28 yX6_standing ∈ zW := zmem 366 (by decide +kernel) (by decide +kernel)
theorem zw_367 : Cond.instanceMethod yX6_standing ∈ zW := zmem 367 (by decide +kernel) (by decide +kernel)
theorem zw_368 : Cond.selects "LateLetters$Telling" yX6_standing yX6_standing ∈ zW := zmem 368 (by decide +kernel) (by decide +kernel)
theorem zw_369 : Cond.code yX6_standing cX6_standing 1 (some .int) ∈ zW := zmem 369 (by decide +kernel) (by decide +kernel)
theorem zw_370 : Cond.methodLink "LateLetters$Times" 31 yX6_personAt ∈ zW := zmem 370 (by decide +kernel) (by decide +kernel)
theorem zw_371 : Cond.instanceMethod yX6_personAt ∈ zW := zmem 371 (by decide +kernel) (by decide +kernel)
theorem zw_372 : Cond.selects "LateLetters$Telling" yX6_personAt yX6_personAt ∈ zW := zmem 372 (by decide +kernel) (by decide +kernel)
theorem zw_373 : Cond.code yX6_personAt cX6_personAt 2 (some .int) ∈ zW := zmem 373 (by decide +kernel) (by decide +kernel)
theorem zn_374 : Cond.methodLinkNest "LateLetters$Telling" 44 yX9_at "LateLetters" ∈ lw_tbl := List.mem_of_getElem? (i := 374) (by decide +kernel)
theorem zw_375 : Cond.methodLink "LateLetters$Times" 35 yX8_send ∈ zW := zmem 375 (by decide +kernel) (by decide +kernel)
theorem zw_377 : Cond.instanceMethod yX8_send ∈ zW := zmem 377 (by decide +kernel) (by decide +kernel)
theorem zw_378 : Cond.code yX8_send cX8_send 7 (some .int) ∈ zW := zmem 378 (by decide +kernel) (by decide +kernel)
theorem zw_379 : Cond.methodLink "LateLetters$Times" 45 yX6_tellerOf ∈ zW := zmem 379 (by decide +kernel) (by decide +kernel)
theorem zw_380 : Cond.instanceMethod yX6_tellerOf ∈ zW := zmem 380 (by decide +kernel) (by decide +kernel)
theorem zw_381 : Cond.selects "LateLetters$Telling" yX6_tellerOf yX6_tellerOf ∈ zW := zmem 381 (by decide +kernel) (by decide +kernel)
theorem zw_382 : Cond.code yX6_tellerOf cX6_tellerOf 2 (some .int) ∈ zW := zmem 382 (by decide +kernel) (by decide +kernel)
theorem zw_383 : Cond.methodLink "LateLetters$Times" 48 yX8_tickOf ∈ zW := zmem 383 (by decide +kernel) (by decide +kernel)
theorem zw_384 : Cond.instanceMethod yX8_tickOf ∈ zW := zmem 384 (by decide +kernel) (by decide +kernel)
theorem zw_385 : Cond.selects "LateLetters$Times" yX8_tickOf yX8_tickOf ∈ zW := zmem 385 (by decide +kernel) (by decide +kernel)
theorem zw_386 : Cond.code yX8_tickOf cX8_tickOf 3 (some .int) ∈ zW := zmem 386 (by decide +kernel) (by decide +kernel)
theorem zn_387 : Cond.methodLinkNest "LateLetters$Times" 51 yX9_at "LateLetters" ∈ lw_tbl := List.mem_of_getElem? (i := 387) (by decide +kernel)
theorem zw_388 : Cond.methodLink "LateLetters$Times" 39 Lib.Math.max.name ∈ zW := zmem 388 (by decide +kernel) (by decide +kernel)
theorem zw_389 : Cond.methodLink "LateLetters$Times" 55 yX6_delayOf ∈ zW := zmem 389 (by decide +kernel) (by decide +kernel)
theorem zw_390 : Cond.instanceMethod yX6_delayOf ∈ zW := zmem 390 (by decide +kernel) (by decide +kernel)
theorem zw_391 : Cond.selects "LateLetters$Telling" yX6_delayOf yX6_delayOf ∈ zW := zmem 391 (by decide +kernel) (by decide +kernel)
theorem zw_392 : Cond.code yX6_delayOf cX6_delayOf 2 (some .int) ∈ zW := zmem 392 (by decide +kernel) (by decide +kernel)
theorem zw_393 : Cond.methodLink "LateLetters$Times" 58 yX6_gapOf ∈ zW := zmem 393 (by decide +kernel) (by decide +kernel)
theorem zw_394 : Cond.instanceMethod yX6_gapOf ∈ zW := zmem 394 (by decide +kernel) (by decide +kernel)
theorem zw_395 : Cond.selects "LateLetters$Telling" yX6_gapOf yX6_gapOf ∈ zW := zmem 395 (by decide +kernel) (by decide +kernel)
theorem zw_396 : Cond.code yX6_gapOf cX6_gapOf 2 (some .int) ∈ zW := zmem 396 (by decide +kernel) (by decide +kernel)
theorem zw_397 : Cond.methodLink "LateLettersLaw" 31 yX9_about ∈ zW := zmem 397 (by decide +kernel) (by decide +kernel)
theorem zw_398 : Cond.instanceMethod yX9_about ∈ zW := zmem 398 (by decide +kernel) (by decide +kernel)
theorem zw_399 : Cond.selects "LateLetters" yX9_about yX9_about ∈ zW := zmem 399 (by decide +kernel) (by decide +kernel)
theorem zw_400 : Cond.code yX9_about cX9_about 2 (some .int) ∈ zW := zmem 400 (by decide +kernel) (by decide +kernel)
theorem zw_401 : Cond.methodLink "LateLetters" 98 yX6_people ∈ zW := zmem 401 (by decide +kernel) (by decide +kernel)
theorem zw_402 : Cond.instanceMethod yX6_people ∈ zW := zmem 402 (by decide +kernel) (by decide +kernel)
theorem zw_403 : Cond.selects "LateLetters$Telling" yX6_people yX6_people ∈ zW := zmem 403 (by decide +kernel) (by decide +kernel)
theorem zw_404 : Cond.code yX6_people cX6_people 1 (some .int) ∈ zW := zmem 404 (by decide +kernel) (by decide +kernel)
theorem zw_405 : Cond.methodLink "LateLetters" 101 yX6_news ∈ zW := zmem 405 (by decide +kernel) (by decide +kernel)
theorem zw_406 : Cond.methodLink "LateLetters" 104 yX9_lastIfQuick ∈ zW := zmem 406 (by decide +kernel) (by decide +kernel)
theorem zw_408 : Cond.instanceMethod yX9_lastIfQuick ∈ zW := zmem 408 (by decide +kernel) (by decide +kernel)
theorem zw_409 : Cond.code yX9_lastIfQuick cX9_lastIfQuick 1 (some .int) ∈ zW := zmem 409 (by decide +kernel) (by decide +kernel)
theorem zw_410 : Cond.methodLink "LateLetters" 209 yX6_become ∈ zW := zmem 410 (by decide +kernel) (by decide +kernel)
theorem zw_411 : Cond.instanceMethod yX6_become ∈ zW := zmem 411 (by decide +kernel) (by decide +kernel)
theorem zw_412 : Cond.selects "LateLetters$Telling" yX6_become yX6_become ∈ zW := zmem 412 (by decide +kernel) (by decide +kernel)
theorem zw_413 : Cond.code yX6_become cX6_become 2 none ∈ zW := zmem 413 (by decide +kernel) (by decide +kernel)
theorem zw_414 : Cond.methodLink "LateLetters$Telling" 34 arraycopyName ∈ zW := zmem 414 (by decide +kernel) (by decide +kernel)
theorem zw_415 : Cond.static arraycopyName ∈ zW := zmem 415 (by decide +kernel) (by decide +kernel)
theorem zw_416 : Cond.native arraycopyName ∈ zW := zmem 416 (by decide +kernel) (by decide +kernel)
theorem zw_417 : Cond.methodLink "LateLetters" 179 yX5_layQuickPlan ∈ zW := zmem 417 (by decide +kernel) (by decide +kernel)
theorem zw_418 : Cond.instanceMethod yX5_layQuickPlan ∈ zW := zmem 418 (by decide +kernel) (by decide +kernel)
theorem zw_419 : Cond.selects "LateLetters$Tellers" yX5_layQuickPlan yX5_layQuickPlan ∈ zW := zmem 419 (by decide +kernel) (by decide +kernel)
theorem zw_420 : Cond.code yX5_layQuickPlan cX5_layQuickPlan 5 none ∈ zW := zmem 420 (by decide +kernel) (by decide +kernel)
theorem zw_421 : Cond.methodLink "LateLetters$Tellers" 15 yX5_begin ∈ zW := zmem 421 (by decide +kernel) (by decide +kernel)
theorem zw_423 : Cond.instanceMethod yX5_begin ∈ zW := zmem 423 (by decide +kernel) (by decide +kernel)
theorem zw_424 : Cond.code yX5_begin cX5_begin 2 none ∈ zW := zmem 424 (by decide +kernel) (by decide +kernel)
theorem zw_425 : Cond.methodLink "LateLetters$Tellers" 68 yX6_delayOf ∈ zW := zmem 425 (by decide +kernel) (by decide +kernel)
theorem zn_426 : Cond.methodLinkNest "LateLetters$Tellers" 72 yX9_put "LateLetters" ∈ lw_tbl := List.mem_of_getElem? (i := 426) (by decide +kernel)
theorem zw_427 : Cond.methodLink "LateLetters$Tellers" 19 yX6_emptyPlan ∈ zW := zmem 427 (by decide +kernel) (by decide +kernel)
theorem zw_428 : Cond.instanceMethod yX6_emptyPlan ∈ zW := zmem 428 (by decide +kernel) (by decide +kernel)
theorem zw_429 : Cond.selects "LateLetters$Telling" yX6_emptyPlan yX6_emptyPlan ∈ zW := zmem 429 (by decide +kernel) (by decide +kernel)
theorem zw_430 : Cond.code yX6_emptyPlan cX6_emptyPlan 1 none ∈ zW := zmem 430 (by decide +kernel) (by decide +kernel)
theorem zw_431 : Cond.methodLink "LateLetters$Tellers" 24 yX6_people ∈ zW := zmem 431 (by decide +kernel) (by decide +kernel)
theorem zw_432 : Cond.methodLink "LateLetters$Tellers" 28 yX5_soonest ∈ zW := zmem 432 (by decide +kernel) (by decide +kernel)
theorem zw_434 : Cond.instanceMethod yX5_soonest ∈ zW := zmem 434 (by decide +kernel) (by decide +kernel)
theorem zw_435 : Cond.code yX5_soonest cX5_soonest 4 (some .int) ∈ zW := zmem 435 (by decide +kernel) (by decide +kernel)
theorem zw_436 : Cond.methodLink "LateLetters$Tellers" 57 yX5_isKnower ∈ zW := zmem 436 (by decide +kernel) (by decide +kernel)
theorem zw_438 : Cond.instanceMethod yX5_isKnower ∈ zW := zmem 438 (by decide +kernel) (by decide +kernel)
theorem zw_439 : Cond.code yX5_isKnower cX5_isKnower 2 (some .boolean) ∈ zW := zmem 439 (by decide +kernel) (by decide +kernel)
theorem zn_440 : Cond.methodLinkNest "LateLetters$Tellers" 47 yX9_at "LateLetters" ∈ lw_tbl := List.mem_of_getElem? (i := 440) (by decide +kernel)
theorem zw_441 : Cond.methodLink "LateLetters$Tellers" 32 yX5_leastDelayed ∈ zW := zmem 441 (by decide +kernel) (by decide +kernel)
theorem zw_443 : Cond.instanceMethod yX5_leastDelayed ∈ zW := zmem 443 (by decide +kernel) (by decide +kernel)
theorem zw_444 : Cond.code yX5_leastDelayed cX5_leastDelayed 4 (some .int) ∈ zW := zmem 444 (by decide +kernel) (by decide +kernel)
theorem zw_445 : Cond.methodLink "LateLetters$Tellers" 76 yX5_isLessDelayed ∈ zW := zmem 445 (by decide +kernel) (by decide +kernel)
theorem zw_446 : Cond.static yX5_isLessDelayed ∈ zW := zmem 446 (by decide +kernel) (by decide +kernel)
theorem zw_447 : Cond.code yX5_isLessDelayed cX5_isLessDelayed 3 (some .boolean) ∈ zW := zmem 447 (by decide +kernel) (by decide +kernel)
theorem zw_448 : Cond.methodLink "LateLetters$Tellers" 80 yX6_gapOf ∈ zW := zmem 448 (by decide +kernel) (by decide +kernel)
theorem zw_449 : Cond.methodLink "LateLetters$Tellers" 35 yX5_tell ∈ zW := zmem 449 (by decide +kernel) (by decide +kernel)
theorem zw_451 : Cond.instanceMethod yX5_tell ∈ zW := zmem 451 (by decide +kernel) (by decide +kernel)
theorem zw_452 : Cond.code yX5_tell cX5_tell 5 none ∈ zW := zmem 452 (by decide +kernel) (by decide +kernel)
theorem zw_453 : Cond.methodLink "LateLetters$Tellers" 39 yX6_putLast ∈ zW := zmem 453 (by decide +kernel) (by decide +kernel)
theorem zw_454 : Cond.methodLink "LateLetters" 107 yX5_leastLast ∈ zW := zmem 454 (by decide +kernel) (by decide +kernel)
theorem zw_455 : Cond.instanceMethod yX5_leastLast ∈ zW := zmem 455 (by decide +kernel) (by decide +kernel)
theorem zw_456 : Cond.selects "LateLetters$Tellers" yX5_leastLast yX5_leastLast ∈ zW := zmem 456 (by decide +kernel) (by decide +kernel)
theorem zw_457 : Cond.code yX5_leastLast cX5_leastLast 2 (some .int) ∈ zW := zmem 457 (by decide +kernel) (by decide +kernel)
theorem zw_458 : Cond.methodLink "LateLetters$Tellers" 43 yX5_leastLastFrom ∈ zW := zmem 458 (by decide +kernel) (by decide +kernel)
theorem zw_460 : Cond.instanceMethod yX5_leastLastFrom ∈ zW := zmem 460 (by decide +kernel) (by decide +kernel)
theorem zw_461 : Cond.code yX5_leastLastFrom cX5_leastLastFrom 8 (some .int) ∈ zW := zmem 461 (by decide +kernel) (by decide +kernel)
theorem zw_462 : Cond.methodLink "LateLetters$Tellers" 51 Lib.Math.min.name ∈ zW := zmem 462 (by decide +kernel) (by decide +kernel)
theorem zw_463 : Cond.static Lib.Math.min.name ∈ zW := zmem 463 (by decide +kernel) (by decide +kernel)
theorem zw_464 : Cond.code Lib.Math.min.name Lib.Math.min.code 2 (some .int) ∈ zW := zmem 464 (by decide +kernel) (by decide +kernel)
theorem zw_465 : Cond.methodLink "LateLetters$Tellers" 61 yX5_takeBack ∈ zW := zmem 465 (by decide +kernel) (by decide +kernel)
theorem zw_467 : Cond.instanceMethod yX5_takeBack ∈ zW := zmem 467 (by decide +kernel) (by decide +kernel)
theorem zw_468 : Cond.code yX5_takeBack cX5_takeBack 4 none ∈ zW := zmem 468 (by decide +kernel) (by decide +kernel)
theorem zw_469 : Cond.methodLink "LateLetters" 110 yX6_standing ∈ zW := zmem 469 (by decide +kernel) (by decide +kernel)
theorem zw_470 : Cond.methodLink "LateLetters" 113 yX0_count ∈ zW := zmem 470 (by decide +kernel) (by decide +kernel)
theorem zw_471 : Cond.instanceMethod yX0_count ∈ zW := zmem 471 (by decide +kernel) (by decide +kernel)
theorem zw_472 : Cond.selects "LateLetters$Acts" yX0_count yX0_count ∈ zW := zmem 472 (by decide +kernel) (by decide +kernel)
theorem zw_473 : Cond.code yX0_count cX0_count 1 (some .int) ∈ zW := zmem 473 (by decide +kernel) (by decide +kernel)
theorem zw_474 : Cond.methodLink "LateLetters" 116 yX2_count ∈ zW := zmem 474 (by decide +kernel) (by decide +kernel)
theorem zw_475 : Cond.instanceMethod yX2_count ∈ zW := zmem 475 (by decide +kernel) (by decide +kernel)
theorem zw_476 : Cond.selects "LateLetters$Seen" yX2_count yX2_count ∈ zW := zmem 476 (by decide +kernel) (by decide +kernel)
theorem zw_477 : Cond.code yX2_count cX2_count 1 (some .int) ∈ zW := zmem 477 (by decide +kernel) (by decide +kernel)
theorem zw_478 : Cond.methodLink "LateLettersLaw" 35 yX9_person ∈ zW := zmem 478 (by decide +kernel) (by decide +kernel)
theorem zw_479 : Cond.instanceMethod yX9_person ∈ zW := zmem 479 (by decide +kernel) (by decide +kernel)
theorem zw_480 : Cond.selects "LateLetters" yX9_person yX9_person ∈ zW := zmem 480 (by decide +kernel) (by decide +kernel)
theorem zw_481 : Cond.code yX9_person cX9_person 3 (some .int) ∈ zW := zmem 481 (by decide +kernel) (by decide +kernel)
theorem zw_482 : Cond.methodLink "LateLetters" 117 yX6_hasPerson ∈ zW := zmem 482 (by decide +kernel) (by decide +kernel)
theorem zw_483 : Cond.instanceMethod yX6_hasPerson ∈ zW := zmem 483 (by decide +kernel) (by decide +kernel)
theorem zw_484 : Cond.selects "LateLetters$Telling" yX6_hasPerson yX6_hasPerson ∈ zW := zmem 484 (by decide +kernel) (by decide +kernel)
theorem zw_485 : Cond.code yX6_hasPerson cX6_hasPerson 2 (some .boolean) ∈ zW := zmem 485 (by decide +kernel) (by decide +kernel)
theorem zw_486 : Cond.methodLink "LateLetters" 120 yX6_delayOf ∈ zW := zmem 486 (by decide +kernel) (by decide +kernel)
theorem zw_487 : Cond.methodLink "LateLetters" 124 yX6_gapOf ∈ zW := zmem 487 (by decide +kernel) (by decide +kernel)
theorem zw_488 : Cond.methodLink "LateLetters" 127 yX6_tellerOf ∈ zW := zmem 488 (by decide +kernel) (by decide +kernel)
theorem zw_489 : Cond.methodLink "LateLetters" 130 yX6_placeOf ∈ zW := zmem 489 (by decide +kernel) (by decide +kernel)
theorem zw_490 : Cond.instanceMethod yX6_placeOf ∈ zW := zmem 490 (by decide +kernel) (by decide +kernel)
theorem zw_491 : Cond.selects "LateLetters$Telling" yX6_placeOf yX6_placeOf ∈ zW := zmem 491 (by decide +kernel) (by decide +kernel)
theorem zw_492 : Cond.code yX6_placeOf cX6_placeOf 3 (some .int) ∈ zW := zmem 492 (by decide +kernel) (by decide +kernel)
theorem zw_493 : Cond.methodLink "LateLetters$Telling" 48 yX6_personAt ∈ zW := zmem 493 (by decide +kernel) (by decide +kernel)
theorem zw_494 : Cond.methodLink "LateLetters" 133 yX6_countToldBy ∈ zW := zmem 494 (by decide +kernel) (by decide +kernel)
theorem zw_495 : Cond.instanceMethod yX6_countToldBy ∈ zW := zmem 495 (by decide +kernel) (by decide +kernel)
theorem zw_496 : Cond.selects "LateLetters$Telling" yX6_countToldBy yX6_countToldBy ∈ zW := zmem 496 (by decide +kernel) (by decide +kernel)
theorem zw_497 : Cond.code yX6_countToldBy cX6_countToldBy 4 (some .int) ∈ zW := zmem 497 (by decide +kernel) (by decide +kernel)
theorem zw_498 : Cond.methodLink "LateLetters$Telling" 52 yX6_tellerOf ∈ zW := zmem 498 (by decide +kernel) (by decide +kernel)
theorem zw_499 : Cond.methodLink "LateLetters" 136 yX9_slackOf ∈ zW := zmem 499 (by decide +kernel) (by decide +kernel)
theorem zw_501 : Cond.instanceMethod yX9_slackOf ∈ zW := zmem 501 (by decide +kernel) (by decide +kernel)
theorem zw_502 : Cond.code yX9_slackOf cX9_slackOf 4 (some .int) ∈ zW := zmem 502 (by decide +kernel) (by decide +kernel)
theorem zw_503 : Cond.methodLink "LateLetters" 224 yX6_setDelay ∈ zW := zmem 503 (by decide +kernel) (by decide +kernel)
theorem zw_504 : Cond.methodLink "LateLetters" 139 yX9_gatheredFrom ∈ zW := zmem 504 (by decide +kernel) (by decide +kernel)
theorem zw_506 : Cond.instanceMethod yX9_gatheredFrom ∈ zW := zmem 506 (by decide +kernel) (by decide +kernel)
theorem zw_507 : Cond.code yX9_gatheredFrom cX9_gatheredFrom 3 (some .int) ∈ zW := zmem 507 (by decide +kernel) (by decide +kernel)
theorem zw_508 : Cond.methodLink "LateLetters" 151 yX8_tickOf ∈ zW := zmem 508 (by decide +kernel) (by decide +kernel)
theorem zw_509 : Cond.methodLink "LateLettersLaw" 40 yX9_plan ∈ zW := zmem 509 (by decide +kernel) (by decide +kernel)
theorem zw_510 : Cond.instanceMethod yX9_plan ∈ zW := zmem 510 (by decide +kernel) (by decide +kernel)
theorem zw_511 : Cond.selects "LateLetters" yX9_plan yX9_plan ∈ zW := zmem 511 (by decide +kernel) (by decide +kernel)
theorem zw_512 : Cond.code yX9_plan cX9_plan 2 (some .int) ∈ zW := zmem 512 (by decide +kernel) (by decide +kernel)
theorem zw_513 : Cond.methodLink "LateLetters" 142 yX6_hasPlace ∈ zW := zmem 513 (by decide +kernel) (by decide +kernel)
theorem zw_514 : Cond.instanceMethod yX6_hasPlace ∈ zW := zmem 514 (by decide +kernel) (by decide +kernel)
theorem zw_515 : Cond.selects "LateLetters$Telling" yX6_hasPlace yX6_hasPlace ∈ zW := zmem 515 (by decide +kernel) (by decide +kernel)
theorem zw_516 : Cond.code yX6_hasPlace cX6_hasPlace 2 (some .boolean) ∈ zW := zmem 516 (by decide +kernel) (by decide +kernel)
theorem zw_517 : Cond.methodLink "LateLetters" 145 yX6_personAt ∈ zW := zmem 517 (by decide +kernel) (by decide +kernel)
theorem zw_518 : Cond.methodLink "LateLettersLaw" 44 yX9_knows ∈ zW := zmem 518 (by decide +kernel) (by decide +kernel)
theorem zw_519 : Cond.instanceMethod yX9_knows ∈ zW := zmem 519 (by decide +kernel) (by decide +kernel)
theorem zw_520 : Cond.selects "LateLetters" yX9_knows yX9_knows ∈ zW := zmem 520 (by decide +kernel) (by decide +kernel)
theorem zw_521 : Cond.code yX9_knows cX9_knows 3 (some .int) ∈ zW := zmem 521 (by decide +kernel) (by decide +kernel)
theorem zw_522 : Cond.methodLink "LateLetters" 148 yX6_hasNews ∈ zW := zmem 522 (by decide +kernel) (by decide +kernel)
theorem zw_523 : Cond.instanceMethod yX6_hasNews ∈ zW := zmem 523 (by decide +kernel) (by decide +kernel)
theorem zw_524 : Cond.selects "LateLetters$Telling" yX6_hasNews yX6_hasNews ∈ zW := zmem 524 (by decide +kernel) (by decide +kernel)
theorem zw_525 : Cond.code yX6_hasNews cX6_hasNews 2 (some .boolean) ∈ zW := zmem 525 (by decide +kernel) (by decide +kernel)
theorem zw_526 : Cond.methodLink "LateLettersLaw" 48 yX9_last ∈ zW := zmem 526 (by decide +kernel) (by decide +kernel)
theorem zw_527 : Cond.instanceMethod yX9_last ∈ zW := zmem 527 (by decide +kernel) (by decide +kernel)
theorem zw_528 : Cond.selects "LateLetters" yX9_last yX9_last ∈ zW := zmem 528 (by decide +kernel) (by decide +kernel)
theorem zw_529 : Cond.code yX9_last cX9_last 4 (some .int) ∈ zW := zmem 529 (by decide +kernel) (by decide +kernel)
theorem zw_530 : Cond.methodLink "LateLetters" 155 Lib.Math.max.name ∈ zW := zmem 530 (by decide +kernel) (by decide +kernel)
theorem zw_531 : Cond.methodLink "LateLettersLaw" 52 yX9_move ∈ zW := zmem 531 (by decide +kernel) (by decide +kernel)
theorem zw_532 : Cond.instanceMethod yX9_move ∈ zW := zmem 532 (by decide +kernel) (by decide +kernel)
theorem zw_533 : Cond.selects "LateLetters" yX9_move yX9_move ∈ zW := zmem 533 (by decide +kernel) (by decide +kernel)
theorem zw_534 : Cond.code yX9_move cX9_move 4 (some .int) ∈ zW := zmem 534 (by decide +kernel) (by decide +kernel)
theorem zw_535 : Cond.methodLink "LateLetters" 160 yX9_refusalOfMove ∈ zW := zmem 535 (by decide +kernel) (by decide +kernel)
theorem zw_536 : Cond.static yX9_refusalOfMove ∈ zW := zmem 536 (by decide +kernel) (by decide +kernel)
theorem zw_537 : Cond.code yX9_refusalOfMove cX9_refusalOfMove 4 (some .int) ∈ zW := zmem 537 (by decide +kernel) (by decide +kernel)
theorem zw_538 : Cond.methodLink "LateLetters" 274 yX6_branchOf ∈ zW := zmem 538 (by decide +kernel) (by decide +kernel)
theorem zw_539 : Cond.instanceMethod yX6_branchOf ∈ zW := zmem 539 (by decide +kernel) (by decide +kernel)
theorem zw_540 : Cond.selects "LateLetters$Telling" yX6_branchOf yX6_branchOf ∈ zW := zmem 540 (by decide +kernel) (by decide +kernel)
theorem zw_541 : Cond.code yX6_branchOf cX6_branchOf 5 (some .int) ∈ zW := zmem 541 (by decide +kernel) (by decide +kernel)
theorem zw_542 : Cond.methodLink "LateLetters" 164 yX0_remember ∈ zW := zmem 542 (by decide +kernel) (by decide +kernel)
theorem zw_543 : Cond.instanceMethod yX0_remember ∈ zW := zmem 543 (by decide +kernel) (by decide +kernel)
theorem zw_544 : Cond.selects "LateLetters$Acts" yX0_remember yX0_remember ∈ zW := zmem 544 (by decide +kernel) (by decide +kernel)
theorem zw_545 : Cond.code yX0_remember cX0_remember 2 none ∈ zW := zmem 545 (by decide +kernel) (by decide +kernel)
theorem zw_546 : Cond.methodLink "LateLetters$Acts" 27 yX3_store ∈ zW := zmem 546 (by decide +kernel) (by decide +kernel)
theorem zw_547 : Cond.instanceMethod yX3_store ∈ zW := zmem 547 (by decide +kernel) (by decide +kernel)
theorem zw_548 : Cond.selects "LateLetters$Shelf" yX3_store yX3_store ∈ zW := zmem 548 (by decide +kernel) (by decide +kernel)
theorem zw_549 : Cond.code yX3_store cX3_store 4 none ∈ zW := zmem 549 (by decide +kernel) (by decide +kernel)
theorem zw_550 : Cond.methodLink "LateLetters$Shelf" 22 yX3_placeAt ∈ zW := zmem 550 (by decide +kernel) (by decide +kernel)
theorem zw_552 : Cond.instanceMethod yX3_placeAt ∈ zW := zmem 552 (by decide +kernel) (by decide +kernel)
theorem zw_553 : Cond.code yX3_placeAt cX3_placeAt 2 (some (.object "LateLetters$Telling")) ∈ zW := zmem 553 (by decide +kernel) (by decide +kernel)
theorem zw_554 : Cond.methodLink "LateLetters$Shelf" 26 yX6_become ∈ zW := zmem 554 (by decide +kernel) (by decide +kernel)
theorem zw_555 : Cond.methodLink "LateLetters" 167 yX6_giveTeller ∈ zW := zmem 555 (by decide +kernel) (by decide +kernel)
theorem zw_556 : Cond.instanceMethod yX6_giveTeller ∈ zW := zmem 556 (by decide +kernel) (by decide +kernel)
theorem zw_557 : Cond.selects "LateLetters$Telling" yX6_giveTeller yX6_giveTeller ∈ zW := zmem 557 (by decide +kernel) (by decide +kernel)
theorem zw_558 : Cond.code yX6_giveTeller cX6_giveTeller 6 none ∈ zW := zmem 558 (by decide +kernel) (by decide +kernel)
theorem zw_559 : Cond.methodLink "LateLetters$Telling" 68 yX6_branchOf ∈ zW := zmem 559 (by decide +kernel) (by decide +kernel)
theorem zw_560 : Cond.methodLink "LateLetters$Telling" 71 yX6_sendBehindAll ∈ zW := zmem 560 (by decide +kernel) (by decide +kernel)
theorem zw_562 : Cond.instanceMethod yX6_sendBehindAll ∈ zW := zmem 562 (by decide +kernel) (by decide +kernel)
theorem zw_563 : Cond.code yX6_sendBehindAll cX6_sendBehindAll 4 none ∈ zW := zmem 563 (by decide +kernel) (by decide +kernel)
theorem zw_564 : Cond.methodLink "LateLettersLaw" 56 yX9_change ∈ zW := zmem 564 (by decide +kernel) (by decide +kernel)
theorem zw_565 : Cond.instanceMethod yX9_change ∈ zW := zmem 565 (by decide +kernel) (by decide +kernel)
theorem zw_566 : Cond.selects "LateLetters" yX9_change yX9_change ∈ zW := zmem 566 (by decide +kernel) (by decide +kernel)
theorem zw_567 : Cond.code yX9_change cX9_change 3 (some .int) ∈ zW := zmem 567 (by decide +kernel) (by decide +kernel)
theorem zw_568 : Cond.methodLink "LateLetters" 171 yX9_refusalOfChange ∈ zW := zmem 568 (by decide +kernel) (by decide +kernel)
theorem zw_569 : Cond.static yX9_refusalOfChange ∈ zW := zmem 569 (by decide +kernel) (by decide +kernel)
theorem zw_570 : Cond.code yX9_refusalOfChange cX9_refusalOfChange 2 (some .int) ∈ zW := zmem 570 (by decide +kernel) (by decide +kernel)
theorem zw_571 : Cond.methodLink "LateLetters" 175 yX6_exchange ∈ zW := zmem 571 (by decide +kernel) (by decide +kernel)
theorem zw_572 : Cond.instanceMethod yX6_exchange ∈ zW := zmem 572 (by decide +kernel) (by decide +kernel)
theorem zw_573 : Cond.selects "LateLetters$Telling" yX6_exchange yX6_exchange ∈ zW := zmem 573 (by decide +kernel) (by decide +kernel)
theorem zw_574 : Cond.code yX6_exchange cX6_exchange 3 none ∈ zW := zmem 574 (by decide +kernel) (by decide +kernel)
theorem zw_575 : Cond.methodLink "LateLettersLaw" 60 yX9_quicken ∈ zW := zmem 575 (by decide +kernel) (by decide +kernel)
theorem zw_576 : Cond.instanceMethod yX9_quicken ∈ zW := zmem 576 (by decide +kernel) (by decide +kernel)
theorem zw_577 : Cond.selects "LateLetters" yX9_quicken yX9_quicken ∈ zW := zmem 577 (by decide +kernel) (by decide +kernel)
theorem zw_578 : Cond.code yX9_quicken cX9_quicken 1 (some .int) ∈ zW := zmem 578 (by decide +kernel) (by decide +kernel)
theorem zw_579 : Cond.methodLink "LateLettersLaw" 64 yX9_set ∈ zW := zmem 579 (by decide +kernel) (by decide +kernel)
theorem zw_580 : Cond.instanceMethod yX9_set ∈ zW := zmem 580 (by decide +kernel) (by decide +kernel)
theorem zw_581 : Cond.selects "LateLetters" yX9_set yX9_set ∈ zW := zmem 581 (by decide +kernel) (by decide +kernel)
theorem zw_582 : Cond.code yX9_set cX9_set 5 (some .int) ∈ zW := zmem 582 (by decide +kernel) (by decide +kernel)
theorem zw_583 : Cond.methodLink "LateLetters" 182 yX9_refusalOfSet ∈ zW := zmem 583 (by decide +kernel) (by decide +kernel)
theorem zw_584 : Cond.static yX9_refusalOfSet ∈ zW := zmem 584 (by decide +kernel) (by decide +kernel)
theorem zw_585 : Cond.code yX9_refusalOfSet cX9_refusalOfSet 5 (some .int) ∈ zW := zmem 585 (by decide +kernel) (by decide +kernel)
theorem zw_586 : Cond.methodLink "LateLetters" 186 yX6_tellAnew ∈ zW := zmem 586 (by decide +kernel) (by decide +kernel)
theorem zw_587 : Cond.instanceMethod yX6_tellAnew ∈ zW := zmem 587 (by decide +kernel) (by decide +kernel)
theorem zw_588 : Cond.selects "LateLetters$Telling" yX6_tellAnew yX6_tellAnew ∈ zW := zmem 588 (by decide +kernel) (by decide +kernel)
theorem zw_589 : Cond.code yX6_tellAnew cX6_tellAnew 5 (some .int) ∈ zW := zmem 589 (by decide +kernel) (by decide +kernel)
theorem zw_590 : Cond.methodLink "LateLetters$Telling" 55 yX6_delayOf ∈ zW := zmem 590 (by decide +kernel) (by decide +kernel)
theorem zw_591 : Cond.methodLink "LateLetters$Telling" 58 yX6_setDelay ∈ zW := zmem 591 (by decide +kernel) (by decide +kernel)
theorem zw_592 : Cond.methodLink "LateLetters$Telling" 62 yX6_gapOf ∈ zW := zmem 592 (by decide +kernel) (by decide +kernel)
theorem zw_593 : Cond.methodLink "LateLetters$Telling" 65 yX6_setGap ∈ zW := zmem 593 (by decide +kernel) (by decide +kernel)
theorem zw_594 : Cond.methodLink "LateLettersLaw" 69 yX9_undo ∈ zW := zmem 594 (by decide +kernel) (by decide +kernel)
theorem zw_595 : Cond.instanceMethod yX9_undo ∈ zW := zmem 595 (by decide +kernel) (by decide +kernel)
theorem zw_596 : Cond.selects "LateLetters" yX9_undo yX9_undo ∈ zW := zmem 596 (by decide +kernel) (by decide +kernel)
theorem zw_597 : Cond.code yX9_undo cX9_undo 1 (some .int) ∈ zW := zmem 597 (by decide +kernel) (by decide +kernel)
theorem zw_598 : Cond.methodLink "LateLetters" 190 yX0_takeBack ∈ zW := zmem 598 (by decide +kernel) (by decide +kernel)
theorem zw_599 : Cond.instanceMethod yX0_takeBack ∈ zW := zmem 599 (by decide +kernel) (by decide +kernel)
theorem zw_600 : Cond.selects "LateLetters$Acts" yX0_takeBack yX0_takeBack ∈ zW := zmem 600 (by decide +kernel) (by decide +kernel)
theorem zw_601 : Cond.code yX0_takeBack cX0_takeBack 2 (some .boolean) ∈ zW := zmem 601 (by decide +kernel) (by decide +kernel)
theorem zw_602 : Cond.methodLink "LateLetters$Acts" 31 yX3_bring ∈ zW := zmem 602 (by decide +kernel) (by decide +kernel)
theorem zw_603 : Cond.instanceMethod yX3_bring ∈ zW := zmem 603 (by decide +kernel) (by decide +kernel)
theorem zw_604 : Cond.selects "LateLetters$Shelf" yX3_bring yX3_bring ∈ zW := zmem 604 (by decide +kernel) (by decide +kernel)
theorem zw_605 : Cond.code yX3_bring cX3_bring 4 none ∈ zW := zmem 605 (by decide +kernel) (by decide +kernel)
theorem zw_606 : Cond.methodLink "LateLettersLaw" 73 yX9_number ∈ zW := zmem 606 (by decide +kernel) (by decide +kernel)
theorem zw_607 : Cond.instanceMethod yX9_number ∈ zW := zmem 607 (by decide +kernel) (by decide +kernel)
theorem zw_608 : Cond.selects "LateLetters" yX9_number yX9_number ∈ zW := zmem 608 (by decide +kernel) (by decide +kernel)
theorem zw_609 : Cond.code yX9_number cX9_number 3 (some .long) ∈ zW := zmem 609 (by decide +kernel) (by decide +kernel)
theorem zw_610 : Cond.constantLong "LateLetters" 194 (Int64.ofInt (-1)) ∈ zW := zmem 610 (by decide +kernel) (by decide +kernel)
theorem zw_611 : Cond.constantLong "LateLetters" 196 (Int64.ofInt (-2)) ∈ zW := zmem 611 (by decide +kernel) (by decide +kernel)
theorem zw_612 : Cond.methodLink "LateLetters" 198 yX1_count ∈ zW := zmem 612 (by decide +kernel) (by decide +kernel)
theorem zw_613 : Cond.instanceMethod yX1_count ∈ zW := zmem 613 (by decide +kernel) (by decide +kernel)
theorem zw_614 : Cond.selects "LateLetters$Numbers" yX1_count yX1_count ∈ zW := zmem 614 (by decide +kernel) (by decide +kernel)
theorem zw_615 : Cond.code yX1_count cX1_count 4 none ∈ zW := zmem 615 (by decide +kernel) (by decide +kernel)
theorem zw_616 : Cond.methodLink "LateLetters$Numbers" 15 yX1_by ∈ zW := zmem 616 (by decide +kernel) (by decide +kernel)
theorem zw_617 : Cond.instanceMethod yX1_by ∈ zW := zmem 617 (by decide +kernel) (by decide +kernel)
theorem zw_618 : Cond.selects "LateLetters$Numbers" yX1_by yX1_by ∈ zW := zmem 618 (by decide +kernel) (by decide +kernel)
theorem zw_619 : Cond.code yX1_by cX1_by 2 (some .long) ∈ zW := zmem 619 (by decide +kernel) (by decide +kernel)
theorem zw_620 : Cond.methodLink "LateLetters" 200 yX1_by ∈ zW := zmem 620 (by decide +kernel) (by decide +kernel)
theorem zw_621 : Cond.methodLink "LateLettersLaw" 78 yX9_soon ∈ zW := zmem 621 (by decide +kernel) (by decide +kernel)
theorem zw_622 : Cond.instanceMethod yX9_soon ∈ zW := zmem 622 (by decide +kernel) (by decide +kernel)
theorem zw_623 : Cond.selects "LateLetters" yX9_soon yX9_soon ∈ zW := zmem 623 (by decide +kernel) (by decide +kernel)
theorem zw_624 : Cond.code yX9_soon cX9_soon 4 (some .int) ∈ zW := zmem 624 (by decide +kernel) (by decide +kernel)
theorem zw_625 : Cond.constant "LateLetters" 204 (Int32.ofInt (99999)) ∈ zW := zmem 625 (by decide +kernel) (by decide +kernel)
theorem zw_626 : Cond.methodLink "LateLettersLaw" 82 yX9_knowers ∈ zW := zmem 626 (by decide +kernel) (by decide +kernel)
theorem zw_627 : Cond.instanceMethod yX9_knowers ∈ zW := zmem 627 (by decide +kernel) (by decide +kernel)
theorem zw_628 : Cond.selects "LateLetters" yX9_knowers yX9_knowers ∈ zW := zmem 628 (by decide +kernel) (by decide +kernel)
theorem zw_629 : Cond.code yX9_knowers cX9_knowers 5 (some .int) ∈ zW := zmem 629 (by decide +kernel) (by decide +kernel)
theorem zw_630 : Cond.methodLink "LateLettersLaw" 88 yX9_judge ∈ zW := zmem 630 (by decide +kernel) (by decide +kernel)
theorem zw_631 : Cond.instanceMethod yX9_judge ∈ zW := zmem 631 (by decide +kernel) (by decide +kernel)
theorem zw_632 : Cond.selects "LateLetters" yX9_judge yX9_judge ∈ zW := zmem 632 (by decide +kernel) (by decide +kernel)
theorem zw_633 : Cond.code yX9_judge cX9_judge 6 (some .int) ∈ zW := zmem 633 (by decide +kernel) (by decide +kernel)
theorem zw_634 : Cond.methodLink "LateLetters" 205 yX9_readDoings ∈ zW := zmem 634 (by decide +kernel) (by decide +kernel)
theorem zw_636 : Cond.instanceMethod yX9_readDoings ∈ zW := zmem 636 (by decide +kernel) (by decide +kernel)
theorem zw_637 : Cond.code yX9_readDoings cX9_readDoings 7 (some .boolean) ∈ zW := zmem 637 (by decide +kernel) (by decide +kernel)
theorem zw_638 : Cond.constantLong "LateLetters" 277 (Int64.ofInt (1000)) ∈ zW := zmem 638 (by decide +kernel) (by decide +kernel)
theorem zw_639 : Cond.methodLink "LateLetters" 279 yX9_put ∈ zW := zmem 639 (by decide +kernel) (by decide +kernel)
theorem zw_640 : Cond.methodLink "LateLetters" 212 yX9_at ∈ zW := zmem 640 (by decide +kernel) (by decide +kernel)
theorem zw_641 : Cond.methodLink "LateLetters" 216 yX9_canBe ∈ zW := zmem 641 (by decide +kernel) (by decide +kernel)
theorem zw_643 : Cond.instanceMethod yX9_canBe ∈ zW := zmem 643 (by decide +kernel) (by decide +kernel)
theorem zw_644 : Cond.code yX9_canBe cX9_canBe 4 (some .boolean) ∈ zW := zmem 644 (by decide +kernel) (by decide +kernel)
theorem zw_645 : Cond.methodLink "LateLetters" 283 yX9_canBeMoved ∈ zW := zmem 645 (by decide +kernel) (by decide +kernel)
theorem zw_647 : Cond.instanceMethod yX9_canBeMoved ∈ zW := zmem 647 (by decide +kernel) (by decide +kernel)
theorem zw_648 : Cond.code yX9_canBeMoved cX9_canBeMoved 3 (some .boolean) ∈ zW := zmem 648 (by decide +kernel) (by decide +kernel)
theorem zw_649 : Cond.methodLink "LateLetters" 286 yX9_canBeChanged ∈ zW := zmem 649 (by decide +kernel) (by decide +kernel)
theorem zw_651 : Cond.instanceMethod yX9_canBeChanged ∈ zW := zmem 651 (by decide +kernel) (by decide +kernel)
theorem zw_652 : Cond.code yX9_canBeChanged cX9_canBeChanged 2 (some .boolean) ∈ zW := zmem 652 (by decide +kernel) (by decide +kernel)
theorem zw_653 : Cond.methodLink "LateLetters" 289 yX9_canBeDelayed ∈ zW := zmem 653 (by decide +kernel) (by decide +kernel)
theorem zw_655 : Cond.instanceMethod yX9_canBeDelayed ∈ zW := zmem 655 (by decide +kernel) (by decide +kernel)
theorem zw_656 : Cond.code yX9_canBeDelayed cX9_canBeDelayed 3 (some .boolean) ∈ zW := zmem 656 (by decide +kernel) (by decide +kernel)
theorem zw_657 : Cond.methodLink "LateLettersLaw" 93 yX9_see ∈ zW := zmem 657 (by decide +kernel) (by decide +kernel)
theorem zw_658 : Cond.instanceMethod yX9_see ∈ zW := zmem 658 (by decide +kernel) (by decide +kernel)
theorem zw_659 : Cond.selects "LateLetters" yX9_see yX9_see ∈ zW := zmem 659 (by decide +kernel) (by decide +kernel)
theorem zw_660 : Cond.code yX9_see cX9_see 3 (some .int) ∈ zW := zmem 660 (by decide +kernel) (by decide +kernel)
theorem zw_661 : Cond.methodLink "LateLetters" 220 yX2_add ∈ zW := zmem 661 (by decide +kernel) (by decide +kernel)
theorem zw_662 : Cond.instanceMethod yX2_add ∈ zW := zmem 662 (by decide +kernel) (by decide +kernel)
theorem zw_663 : Cond.selects "LateLetters$Seen" yX2_add yX2_add ∈ zW := zmem 663 (by decide +kernel) (by decide +kernel)
theorem zw_664 : Cond.code yX2_add cX2_add 3 (some .boolean) ∈ zW := zmem 664 (by decide +kernel) (by decide +kernel)
theorem zn_665 : Cond.methodLinkNest "LateLetters$Seen" 22 yX9_put "LateLetters" ∈ lw_tbl := List.mem_of_getElem? (i := 665) (by decide +kernel)
theorem zw_666 : Cond.methodLink "LateLettersLaw" 97 yX9_unsee ∈ zW := zmem 666 (by decide +kernel) (by decide +kernel)
theorem zw_667 : Cond.instanceMethod yX9_unsee ∈ zW := zmem 667 (by decide +kernel) (by decide +kernel)
theorem zw_668 : Cond.selects "LateLetters" yX9_unsee yX9_unsee ∈ zW := zmem 668 (by decide +kernel) (by decide +kernel)
theorem zw_669 : Cond.code yX9_unsee cX9_unsee 2 (some .int) ∈ zW := zmem 669 (by decide +kernel) (by decide +kernel)
theorem zw_670 : Cond.methodLink "LateLetters" 223 yX2_forgetAll ∈ zW := zmem 670 (by decide +kernel) (by decide +kernel)
theorem zw_671 : Cond.instanceMethod yX2_forgetAll ∈ zW := zmem 671 (by decide +kernel) (by decide +kernel)
theorem zw_672 : Cond.selects "LateLetters$Seen" yX2_forgetAll yX2_forgetAll ∈ zW := zmem 672 (by decide +kernel) (by decide +kernel)
theorem zw_673 : Cond.code yX2_forgetAll cX2_forgetAll 1 none ∈ zW := zmem 673 (by decide +kernel) (by decide +kernel)
theorem zw_674 : Cond.methodLink "LateLettersLaw" 101 yX9_which ∈ zW := zmem 674 (by decide +kernel) (by decide +kernel)
theorem zw_675 : Cond.instanceMethod yX9_which ∈ zW := zmem 675 (by decide +kernel) (by decide +kernel)
theorem zw_676 : Cond.selects "LateLetters" yX9_which yX9_which ∈ zW := zmem 676 (by decide +kernel) (by decide +kernel)
theorem zw_677 : Cond.code yX9_which cX9_which 4 (some .int) ∈ zW := zmem 677 (by decide +kernel) (by decide +kernel)
theorem zw_678 : Cond.methodLink "LateLetters" 227 yX2_isSo ∈ zW := zmem 678 (by decide +kernel) (by decide +kernel)
theorem zw_679 : Cond.instanceMethod yX2_isSo ∈ zW := zmem 679 (by decide +kernel) (by decide +kernel)
theorem zw_680 : Cond.selects "LateLetters$Seen" yX2_isSo yX2_isSo ∈ zW := zmem 680 (by decide +kernel) (by decide +kernel)
theorem zw_681 : Cond.code yX2_isSo cX2_isSo 5 (some .boolean) ∈ zW := zmem 681 (by decide +kernel) (by decide +kernel)
theorem zn_682 : Cond.methodLinkNest "LateLetters$Seen" 26 yX9_at "LateLetters" ∈ lw_tbl := List.mem_of_getElem? (i := 682) (by decide +kernel)
theorem zw_683 : Cond.methodLink "LateLetters$Seen" 30 yX6_hasPerson ∈ zW := zmem 683 (by decide +kernel) (by decide +kernel)
theorem zw_684 : Cond.methodLink "LateLetters$Seen" 36 yX8_tickOf ∈ zW := zmem 684 (by decide +kernel) (by decide +kernel)
theorem zw_685 : Cond.methodLink "LateLettersLaw" 105 yX9_share ∈ zW := zmem 685 (by decide +kernel) (by decide +kernel)
theorem zw_686 : Cond.instanceMethod yX9_share ∈ zW := zmem 686 (by decide +kernel) (by decide +kernel)
theorem zw_687 : Cond.selects "LateLetters" yX9_share yX9_share ∈ zW := zmem 687 (by decide +kernel) (by decide +kernel)
theorem zw_688 : Cond.code yX9_share cX9_share 13 (some .int) ∈ zW := zmem 688 (by decide +kernel) (by decide +kernel)
theorem zw_689 : Cond.methodLink "LateLetters" 231 yX9_peopleWhoseDelayMayCount ∈ zW := zmem 689 (by decide +kernel) (by decide +kernel)
theorem zw_691 : Cond.instanceMethod yX9_peopleWhoseDelayMayCount ∈ zW := zmem 691 (by decide +kernel) (by decide +kernel)
theorem zw_692 : Cond.code yX9_peopleWhoseDelayMayCount cX9_peopleWhoseDelayMayCount 3 (some .int) ∈ zW := zmem 692 (by decide +kernel) (by decide +kernel)
theorem zw_693 : Cond.methodLink "LateLetters" 234 yX9_partOfFraction ∈ zW := zmem 693 (by decide +kernel) (by decide +kernel)
theorem zw_694 : Cond.static yX9_partOfFraction ∈ zW := zmem 694 (by decide +kernel) (by decide +kernel)
theorem zw_695 : Cond.code yX9_partOfFraction cX9_partOfFraction 7 (some .int) ∈ zW := zmem 695 (by decide +kernel) (by decide +kernel)
theorem zw_696 : Cond.methodLink "LateLetters" 296 Lib.MathLoose.abs_long.x ∈ zW := zmem 696 (by decide +kernel) (by decide +kernel)
theorem zw_697 : Cond.static Lib.MathLoose.abs_long.x ∈ zW := zmem 697 (by decide +kernel) (by decide +kernel)
theorem zw_698 : Cond.code Lib.MathLoose.abs_long.x Lib.MathLoose.abs_long.code 2 (some .long) ∈ zW := zmem 698 (by decide +kernel) (by decide +kernel)
theorem zw_699 : Cond.methodLink "LateLetters" 300 yX9_commonDivisor ∈ zW := zmem 699 (by decide +kernel) (by decide +kernel)
theorem zw_700 : Cond.static yX9_commonDivisor ∈ zW := zmem 700 (by decide +kernel) (by decide +kernel)
theorem zw_701 : Cond.code yX9_commonDivisor cX9_commonDivisor 11 (some .long) ∈ zW := zmem 701 (by decide +kernel) (by decide +kernel)
theorem zw_702 : Cond.methodLink "LateLetters" 238 yJ6_bitCount_0f7a4 ∈ zW := zmem 702 (by decide +kernel) (by decide +kernel)
theorem zw_703 : Cond.static yJ6_bitCount_0f7a4 ∈ zW := zmem 703 (by decide +kernel) (by decide +kernel)
theorem zw_704 : Cond.code yJ6_bitCount_0f7a4 cJ6_bitCount_0f7a4 1 (some .int) ∈ zW := zmem 704 (by decide +kernel) (by decide +kernel)
theorem zw_705 : Cond.constant "java/lang/Integer" 265 (Int32.ofInt (1431655765)) ∈ zW := zmem 705 (by decide +kernel) (by decide +kernel)
theorem zw_706 : Cond.constant "java/lang/Integer" 266 (Int32.ofInt (858993459)) ∈ zW := zmem 706 (by decide +kernel) (by decide +kernel)
theorem zw_707 : Cond.constant "java/lang/Integer" 267 (Int32.ofInt (252645135)) ∈ zW := zmem 707 (by decide +kernel) (by decide +kernel)
theorem zw_708 : Cond.methodLink "LateLetters" 243 yX9_factorial ∈ zW := zmem 708 (by decide +kernel) (by decide +kernel)
theorem zw_709 : Cond.static yX9_factorial ∈ zW := zmem 709 (by decide +kernel) (by decide +kernel)
theorem zw_710 : Cond.code yX9_factorial cX9_factorial 1 (some .long) ∈ zW := zmem 710 (by decide +kernel) (by decide +kernel)
theorem zw_711 : Cond.fieldLink "LateLetters" 292 "LateLetters" "FACTORIALS" "[J" ∈ zW := zmem 711 (by decide +kernel) (by decide +kernel)
theorem zw_713 : Cond.methodLink "LateLetters" 246 yX9_lastWhenCome ∈ zW := zmem 713 (by decide +kernel) (by decide +kernel)
theorem zw_715 : Cond.instanceMethod yX9_lastWhenCome ∈ zW := zmem 715 (by decide +kernel) (by decide +kernel)
theorem zw_716 : Cond.code yX9_lastWhenCome cX9_lastWhenCome 3 (some .int) ∈ zW := zmem 716 (by decide +kernel) (by decide +kernel)
theorem zw_717 : Cond.methodLink "LateLettersLaw" 110 yX9_chance ∈ zW := zmem 717 (by decide +kernel) (by decide +kernel)
theorem zw_718 : Cond.instanceMethod yX9_chance ∈ zW := zmem 718 (by decide +kernel) (by decide +kernel)
theorem zw_719 : Cond.selects "LateLetters" yX9_chance yX9_chance ∈ zW := zmem 719 (by decide +kernel) (by decide +kernel)
theorem zw_720 : Cond.code yX9_chance cX9_chance 7 (some .int) ∈ zW := zmem 720 (by decide +kernel) (by decide +kernel)
theorem zw_721 : Cond.constantLong "LateLetters" 249 (Int64.ofInt (10)) ∈ zW := zmem 721 (by decide +kernel) (by decide +kernel)
theorem zw_722 : Cond.methodLink "LateLetters" 251 yX9_chancesFrom ∈ zW := zmem 722 (by decide +kernel) (by decide +kernel)
theorem zw_724 : Cond.instanceMethod yX9_chancesFrom ∈ zW := zmem 724 (by decide +kernel) (by decide +kernel)
theorem zw_725 : Cond.code yX9_chancesFrom cX9_chancesFrom 10 (some .long) ∈ zW := zmem 725 (by decide +kernel) (by decide +kernel)
theorem zw_726 : Cond.methodLink "LateLettersLaw" 115 yX9_seed ∈ zW := zmem 726 (by decide +kernel) (by decide +kernel)
theorem zw_727 : Cond.instanceMethod yX9_seed ∈ zW := zmem 727 (by decide +kernel) (by decide +kernel)
theorem zw_728 : Cond.selects "LateLetters" yX9_seed yX9_seed ∈ zW := zmem 728 (by decide +kernel) (by decide +kernel)
theorem zw_729 : Cond.code yX9_seed cX9_seed 5 (some .long) ∈ zW := zmem 729 (by decide +kernel) (by decide +kernel)
theorem zw_730 : Cond.methodLink "LateLettersLaw" 120 yX9_drawn ∈ zW := zmem 730 (by decide +kernel) (by decide +kernel)
theorem zw_731 : Cond.instanceMethod yX9_drawn ∈ zW := zmem 731 (by decide +kernel) (by decide +kernel)
theorem zw_732 : Cond.selects "LateLetters" yX9_drawn yX9_drawn ∈ zW := zmem 732 (by decide +kernel) (by decide +kernel)
theorem zw_733 : Cond.code yX9_drawn cX9_drawn 4 (some .int) ∈ zW := zmem 733 (by decide +kernel) (by decide +kernel)
theorem zw_734 : Cond.constantLong "LateLetters" 259 (Int64.ofInt (6364136223846793005)) ∈ zW := zmem 734 (by decide +kernel) (by decide +kernel)
theorem zw_735 : Cond.constantLong "LateLetters" 261 (Int64.ofInt (1442695040888963407)) ∈ zW := zmem 735 (by decide +kernel) (by decide +kernel)
theorem zw_736 : Cond.methodLink "LateLetters" 263 yX9_drawDelays ∈ zW := zmem 736 (by decide +kernel) (by decide +kernel)
theorem zw_738 : Cond.instanceMethod yX9_drawDelays ∈ zW := zmem 738 (by decide +kernel) (by decide +kernel)
theorem zw_739 : Cond.code yX9_drawDelays cX9_drawDelays 4 none ∈ zW := zmem 739 (by decide +kernel) (by decide +kernel)
theorem zw_740 : Cond.methodLink "LateLettersLaw" 124 yX9_keep ∈ zW := zmem 740 (by decide +kernel) (by decide +kernel)
theorem zw_741 : Cond.instanceMethod yX9_keep ∈ zW := zmem 741 (by decide +kernel) (by decide +kernel)
theorem zw_742 : Cond.selects "LateLetters" yX9_keep yX9_keep ∈ zW := zmem 742 (by decide +kernel) (by decide +kernel)
theorem zw_743 : Cond.code yX9_keep cX9_keep 2 (some .int) ∈ zW := zmem 743 (by decide +kernel) (by decide +kernel)
theorem zw_744 : Cond.methodLink "LateLetters" 266 yX4_fill ∈ zW := zmem 744 (by decide +kernel) (by decide +kernel)
theorem zw_745 : Cond.instanceMethod yX4_fill ∈ zW := zmem 745 (by decide +kernel) (by decide +kernel)
theorem zw_746 : Cond.selects "LateLetters$Slots" yX4_fill yX4_fill ∈ zW := zmem 746 (by decide +kernel) (by decide +kernel)
theorem zw_747 : Cond.code yX4_fill cX4_fill 3 none ∈ zW := zmem 747 (by decide +kernel) (by decide +kernel)
theorem zw_748 : Cond.methodLink "LateLetters$Slots" 24 yX3_store ∈ zW := zmem 748 (by decide +kernel) (by decide +kernel)
theorem zw_749 : Cond.methodLink "LateLettersLaw" 128 yX9_again ∈ zW := zmem 749 (by decide +kernel) (by decide +kernel)
theorem zw_750 : Cond.instanceMethod yX9_again ∈ zW := zmem 750 (by decide +kernel) (by decide +kernel)
theorem zw_751 : Cond.selects "LateLetters" yX9_again yX9_again ∈ zW := zmem 751 (by decide +kernel) (by decide +kernel)
theorem zw_752 : Cond.code yX9_again cX9_again 2 (some .int) ∈ zW := zmem 752 (by decide +kernel) (by decide +kernel)
theorem zw_753 : Cond.methodLink "LateLetters" 270 yX4_fetch ∈ zW := zmem 753 (by decide +kernel) (by decide +kernel)
theorem zw_754 : Cond.instanceMethod yX4_fetch ∈ zW := zmem 754 (by decide +kernel) (by decide +kernel)
theorem zw_755 : Cond.selects "LateLetters$Slots" yX4_fetch yX4_fetch ∈ zW := zmem 755 (by decide +kernel) (by decide +kernel)
theorem zw_756 : Cond.code yX4_fetch cX4_fetch 3 (some .boolean) ∈ zW := zmem 756 (by decide +kernel) (by decide +kernel)
theorem zw_757 : Cond.methodLink "LateLetters$Slots" 28 yX3_bring ∈ zW := zmem 757 (by decide +kernel) (by decide +kernel)
theorem zw_758 : Cond.classLink "LateLettersLaw" 10 "LateLettersModel" ∈ zW := zmem 758 (by decide +kernel) (by decide +kernel)
theorem zw_759 : Cond.instantiable "LateLettersModel" 25 ∈ zW := zmem 759 (by decide +kernel) (by decide +kernel)
theorem zw_760 : Cond.methodLink "LateLettersLaw" 12 yX10_init ∈ zW := zmem 760 (by decide +kernel) (by decide +kernel)
theorem zw_761 : Cond.instanceMethod yX10_init ∈ zW := zmem 761 (by decide +kernel) (by decide +kernel)
theorem zw_762 : Cond.code yX10_init cX10_init 1 none ∈ zW := zmem 762 (by decide +kernel) (by decide +kernel)
theorem zw_763 : Cond.methodLink "LateLettersModel" 1 Lib.objectInit ∈ zW := zmem 763 (by decide +kernel) (by decide +kernel)
theorem zw_764 : Cond.fieldLink "LateLettersModel" 7 "LateLettersModel" "text" "[I" ∈ zW := zmem 764 (by decide +kernel) (by decide +kernel)
theorem zw_765 : Cond.fieldLink "LateLettersModel" 67 "LateLettersModel" "length" "I" ∈ zW := zmem 765 (by decide +kernel) (by decide +kernel)
theorem zw_766 : Cond.fieldLink "LateLettersModel" 57 "LateLettersModel" "people" "I" ∈ zW := zmem 766 (by decide +kernel) (by decide +kernel)
theorem zw_767 : Cond.fieldLink "LateLettersModel" 13 "LateLettersModel" "now" "[I" ∈ zW := zmem 767 (by decide +kernel) (by decide +kernel)
theorem zw_768 : Cond.fieldLink "LateLettersModel" 16 "LateLettersModel" "trial" "[I" ∈ zW := zmem 768 (by decide +kernel) (by decide +kernel)
theorem zw_769 : Cond.fieldLink "LateLettersModel" 19 "LateLettersModel" "diary" "[I" ∈ zW := zmem 769 (by decide +kernel) (by decide +kernel)
theorem zw_770 : Cond.fieldLink "LateLettersModel" 108 "LateLettersModel" "acts" "I" ∈ zW := zmem 770 (by decide +kernel) (by decide +kernel)
theorem zw_771 : Cond.fieldLink "LateLettersModel" 172 "LateLettersModel" "next" "I" ∈ zW := zmem 771 (by decide +kernel) (by decide +kernel)
theorem zw_772 : Cond.fieldLink "LateLettersModel" 22 "LateLettersModel" "kept" "[I" ∈ zW := zmem 772 (by decide +kernel) (by decide +kernel)
theorem zw_773 : Cond.fieldLink "LateLettersModel" 25 "LateLettersModel" "isKept" "[Z" ∈ zW := zmem 773 (by decide +kernel) (by decide +kernel)
theorem zw_774 : Cond.fieldLink "LateLettersModel" 29 "LateLettersModel" "seenWho" "[I" ∈ zW := zmem 774 (by decide +kernel) (by decide +kernel)
theorem zw_775 : Cond.fieldLink "LateLettersModel" 32 "LateLettersModel" "seenTick" "[I" ∈ zW := zmem 775 (by decide +kernel) (by decide +kernel)
theorem zw_776 : Cond.fieldLink "LateLettersModel" 153 "LateLettersModel" "seen" "I" ∈ zW := zmem 776 (by decide +kernel) (by decide +kernel)
theorem zw_777 : Cond.fieldLink "LateLettersModel" 251 "LateLettersModel" "seed" "J" ∈ zW := zmem 777 (by decide +kernel) (by decide +kernel)
theorem zw_778 : Cond.fieldLink "LateLettersModel" 35 "LateLettersModel" "tick" "[I" ∈ zW := zmem 778 (by decide +kernel) (by decide +kernel)
theorem zw_779 : Cond.fieldLink "LateLettersModel" 38 "LateLettersModel" "when" "[I" ∈ zW := zmem 779 (by decide +kernel) (by decide +kernel)
theorem zw_780 : Cond.fieldLink "LateLettersModel" 41 "LateLettersModel" "began" "[I" ∈ zW := zmem 780 (by decide +kernel) (by decide +kernel)
theorem zw_781 : Cond.fieldLink "LateLettersModel" 44 "LateLettersModel" "order" "[I" ∈ zW := zmem 781 (by decide +kernel) (by decide +kernel)
theorem zw_782 : Cond.fieldLink "LateLettersModel" 47 "LateLettersModel" "worth" "[I" ∈ zW := zmem 782 (by decide +kernel) (by decide +kernel)
theorem zw_783 : Cond.fieldLink "LateLettersModel" 50 "LateLettersModel" "many" "[J" ∈ zW := zmem 783 (by decide +kernel) (by decide +kernel)
theorem zw_784 : Cond.fieldLink "LateLettersModel" 72 "LateLettersModel" "readPeople" "I" ∈ zW := zmem 784 (by decide +kernel) (by decide +kernel)
theorem zw_785 : Cond.fieldLink "LateLettersModel" 54 "LateLettersModel" "read" "[I" ∈ zW := zmem 785 (by decide +kernel) (by decide +kernel)
theorem zw_786 : Cond.fieldLink "LateLettersModel" 87 "LateLettersModel" "readStand" "I" ∈ zW := zmem 786 (by decide +kernel) (by decide +kernel)
theorem zw_787 : Cond.fieldLink "LateLettersModel" 81 "LateLettersModel" "readMany" "I" ∈ zW := zmem 787 (by decide +kernel) (by decide +kernel)
theorem zw_788 : Cond.fieldLink "LateLettersModel" 84 "LateLettersModel" "readWho" "I" ∈ zW := zmem 788 (by decide +kernel) (by decide +kernel)
theorem zw_840 : Cond.arrayClass (newarray.typeOf .boolean) ∈ zW := zmem 840 (by decide +kernel) (by decide +kernel)
theorem zw_841 : Cond.methodLink "LateLettersLaw" 17 yX10_write ∈ zW := zmem 841 (by decide +kernel) (by decide +kernel)
theorem zw_842 : Cond.instanceMethod yX10_write ∈ zW := zmem 842 (by decide +kernel) (by decide +kernel)
theorem zw_843 : Cond.selects "LateLettersModel" yX10_write yX10_write ∈ zW := zmem 843 (by decide +kernel) (by decide +kernel)
theorem zw_844 : Cond.code yX10_write cX10_write 2 (some .int) ∈ zW := zmem 844 (by decide +kernel) (by decide +kernel)
theorem zw_845 : Cond.constantLong "LateLettersModel" 65 (Int64.ofInt (255)) ∈ zW := zmem 845 (by decide +kernel) (by decide +kernel)
theorem zw_846 : Cond.methodLink "LateLettersModel" 61 yX10_in ∈ zW := zmem 846 (by decide +kernel) (by decide +kernel)
theorem zw_847 : Cond.static yX10_in ∈ zW := zmem 847 (by decide +kernel) (by decide +kernel)
theorem zw_848 : Cond.code yX10_in cX10_in 6 (some .boolean) ∈ zW := zmem 848 (by decide +kernel) (by decide +kernel)
theorem zw_849 : Cond.methodLink "LateLettersLaw" 22 yX10_wipe ∈ zW := zmem 849 (by decide +kernel) (by decide +kernel)
theorem zw_850 : Cond.instanceMethod yX10_wipe ∈ zW := zmem 850 (by decide +kernel) (by decide +kernel)
theorem zw_851 : Cond.selects "LateLettersModel" yX10_wipe yX10_wipe ∈ zW := zmem 851 (by decide +kernel) (by decide +kernel)
theorem zw_852 : Cond.code yX10_wipe cX10_wipe 2 (some .int) ∈ zW := zmem 852 (by decide +kernel) (by decide +kernel)
theorem zw_853 : Cond.methodLink "LateLettersLaw" 26 yX10_fault ∈ zW := zmem 853 (by decide +kernel) (by decide +kernel)
theorem zw_854 : Cond.instanceMethod yX10_fault ∈ zW := zmem 854 (by decide +kernel) (by decide +kernel)
theorem zw_855 : Cond.selects "LateLettersModel" yX10_fault yX10_fault ∈ zW := zmem 855 (by decide +kernel) (by decide +kernel)
theorem zw_856 : Cond.code yX10_fault cX10_fault 1 (some .int) ∈ zW := zmem 856 (by decide +kernel) (by decide +kernel)
theorem zw_857 : Cond.methodLink "LateLettersModel" 100 yX10_readText ∈ zW := zmem 857 (by decide +kernel) (by decide +kernel)
theorem zw_859 : Cond.instanceMethod yX10_readText ∈ zW := zmem 859 (by decide +kernel) (by decide +kernel)
theorem zw_860 : Cond.code yX10_readText cX10_readText 4 (some .int) ∈ zW := zmem 860 (by decide +kernel) (by decide +kernel)
theorem zw_861 : Cond.methodLink "LateLettersModel" 94 yX10_takeHead ∈ zW := zmem 861 (by decide +kernel) (by decide +kernel)
theorem zw_863 : Cond.instanceMethod yX10_takeHead ∈ zW := zmem 863 (by decide +kernel) (by decide +kernel)
theorem zw_864 : Cond.code yX10_takeHead cX10_takeHead 4 (some .boolean) ∈ zW := zmem 864 (by decide +kernel) (by decide +kernel)
theorem zw_865 : Cond.constantLong "LateLettersModel" 70 (Int64.ofInt (3)) ∈ zW := zmem 865 (by decide +kernel) (by decide +kernel)
theorem zw_866 : Cond.constantLong "LateLettersModel" 75 (Int64.ofInt (8)) ∈ zW := zmem 866 (by decide +kernel) (by decide +kernel)
theorem zw_867 : Cond.constantLong "LateLettersModel" 77 (Int64.ofInt (9)) ∈ zW := zmem 867 (by decide +kernel) (by decide +kernel)
theorem zw_868 : Cond.constantLong "LateLettersModel" 79 (Int64.ofInt (5)) ∈ zW := zmem 868 (by decide +kernel) (by decide +kernel)
theorem zw_869 : Cond.methodLink "LateLettersModel" 97 yX10_takePart ∈ zW := zmem 869 (by decide +kernel) (by decide +kernel)
theorem zw_871 : Cond.instanceMethod yX10_takePart ∈ zW := zmem 871 (by decide +kernel) (by decide +kernel)
theorem zw_872 : Cond.code yX10_takePart cX10_takePart 4 (some .boolean) ∈ zW := zmem 872 (by decide +kernel) (by decide +kernel)
theorem zw_873 : Cond.methodLink "LateLettersModel" 90 yX10_has ∈ zW := zmem 873 (by decide +kernel) (by decide +kernel)
theorem zw_874 : Cond.static yX10_has ∈ zW := zmem 874 (by decide +kernel) (by decide +kernel)
theorem zw_875 : Cond.code yX10_has cX10_has 2 (some .boolean) ∈ zW := zmem 875 (by decide +kernel) (by decide +kernel)
theorem zw_876 : Cond.methodLink "LateLettersLaw" 30 yX10_telling ∈ zW := zmem 876 (by decide +kernel) (by decide +kernel)
theorem zw_877 : Cond.instanceMethod yX10_telling ∈ zW := zmem 877 (by decide +kernel) (by decide +kernel)
theorem zw_878 : Cond.selects "LateLettersModel" yX10_telling yX10_telling ∈ zW := zmem 878 (by decide +kernel) (by decide +kernel)
theorem zw_879 : Cond.code yX10_telling cX10_telling 1 (some .int) ∈ zW := zmem 879 (by decide +kernel) (by decide +kernel)
theorem zw_880 : Cond.methodLink "LateLettersModel" 104 yX10_copy ∈ zW := zmem 880 (by decide +kernel) (by decide +kernel)
theorem zw_881 : Cond.static yX10_copy ∈ zW := zmem 881 (by decide +kernel) (by decide +kernel)
theorem zw_882 : Cond.code yX10_copy cX10_copy 3 none ∈ zW := zmem 882 (by decide +kernel) (by decide +kernel)
theorem zw_883 : Cond.methodLink "LateLettersModel" 111 yX10_lastOf ∈ zW := zmem 883 (by decide +kernel) (by decide +kernel)
theorem zw_885 : Cond.instanceMethod yX10_lastOf ∈ zW := zmem 885 (by decide +kernel) (by decide +kernel)
theorem zw_886 : Cond.code yX10_lastOf cX10_lastOf 5 (some .int) ∈ zW := zmem 886 (by decide +kernel) (by decide +kernel)
theorem zw_887 : Cond.methodLink "LateLettersModel" 123 yX10_lastOfNews ∈ zW := zmem 887 (by decide +kernel) (by decide +kernel)
theorem zw_889 : Cond.instanceMethod yX10_lastOfNews ∈ zW := zmem 889 (by decide +kernel) (by decide +kernel)
theorem zw_890 : Cond.code yX10_lastOfNews cX10_lastOfNews 5 (some .int) ∈ zW := zmem 890 (by decide +kernel) (by decide +kernel)
theorem zw_891 : Cond.methodLink "LateLettersModel" 119 yX10_layTicks ∈ zW := zmem 891 (by decide +kernel) (by decide +kernel)
theorem zw_893 : Cond.instanceMethod yX10_layTicks ∈ zW := zmem 893 (by decide +kernel) (by decide +kernel)
theorem zw_894 : Cond.code yX10_layTicks cX10_layTicks 3 none ∈ zW := zmem 894 (by decide +kernel) (by decide +kernel)
theorem zw_895 : Cond.methodLink "LateLettersModel" 115 yX10_layTold ∈ zW := zmem 895 (by decide +kernel) (by decide +kernel)
theorem zw_897 : Cond.instanceMethod yX10_layTold ∈ zW := zmem 897 (by decide +kernel) (by decide +kernel)
theorem zw_898 : Cond.code yX10_layTold cX10_layTold 9 none ∈ zW := zmem 898 (by decide +kernel) (by decide +kernel)
theorem zw_899 : Cond.methodLink "LateLettersLaw" 34 yX10_about ∈ zW := zmem 899 (by decide +kernel) (by decide +kernel)
theorem zw_900 : Cond.instanceMethod yX10_about ∈ zW := zmem 900 (by decide +kernel) (by decide +kernel)
theorem zw_901 : Cond.selects "LateLettersModel" yX10_about yX10_about ∈ zW := zmem 901 (by decide +kernel) (by decide +kernel)
theorem zw_902 : Cond.code yX10_about cX10_about 2 (some .int) ∈ zW := zmem 902 (by decide +kernel) (by decide +kernel)
theorem zw_903 : Cond.methodLink "LateLettersModel" 147 yX10_quick ∈ zW := zmem 903 (by decide +kernel) (by decide +kernel)
theorem zw_905 : Cond.instanceMethod yX10_quick ∈ zW := zmem 905 (by decide +kernel) (by decide +kernel)
theorem zw_906 : Cond.code yX10_quick cX10_quick 6 none ∈ zW := zmem 906 (by decide +kernel) (by decide +kernel)
theorem zw_907 : Cond.methodLink "LateLettersModel" 130 yX10_beginOne ∈ zW := zmem 907 (by decide +kernel) (by decide +kernel)
theorem zw_909 : Cond.instanceMethod yX10_beginOne ∈ zW := zmem 909 (by decide +kernel) (by decide +kernel)
theorem zw_910 : Cond.code yX10_beginOne cX10_beginOne 2 none ∈ zW := zmem 910 (by decide +kernel) (by decide +kernel)
theorem zw_911 : Cond.methodLink "LateLettersModel" 133 yX10_soonest ∈ zW := zmem 911 (by decide +kernel) (by decide +kernel)
theorem zw_913 : Cond.instanceMethod yX10_soonest ∈ zW := zmem 913 (by decide +kernel) (by decide +kernel)
theorem zw_914 : Cond.code yX10_soonest cX10_soonest 5 (some .int) ∈ zW := zmem 914 (by decide +kernel) (by decide +kernel)
theorem zw_915 : Cond.methodLink "LateLettersModel" 127 yX10_nextBegin ∈ zW := zmem 915 (by decide +kernel) (by decide +kernel)
theorem zw_917 : Cond.instanceMethod yX10_nextBegin ∈ zW := zmem 917 (by decide +kernel) (by decide +kernel)
theorem zw_918 : Cond.code yX10_nextBegin cX10_nextBegin 3 (some .int) ∈ zW := zmem 918 (by decide +kernel) (by decide +kernel)
theorem zw_919 : Cond.methodLink "LateLettersModel" 136 yX10_quickest ∈ zW := zmem 919 (by decide +kernel) (by decide +kernel)
theorem zw_921 : Cond.instanceMethod yX10_quickest ∈ zW := zmem 921 (by decide +kernel) (by decide +kernel)
theorem zw_922 : Cond.code yX10_quickest cX10_quickest 5 (some .int) ∈ zW := zmem 922 (by decide +kernel) (by decide +kernel)
theorem zw_923 : Cond.methodLink "LateLettersModel" 139 yX10_tell ∈ zW := zmem 923 (by decide +kernel) (by decide +kernel)
theorem zw_925 : Cond.instanceMethod yX10_tell ∈ zW := zmem 925 (by decide +kernel) (by decide +kernel)
theorem zw_926 : Cond.code yX10_tell cX10_tell 4 (some .int) ∈ zW := zmem 926 (by decide +kernel) (by decide +kernel)
theorem zw_927 : Cond.methodLink "LateLettersModel" 150 yX10_best ∈ zW := zmem 927 (by decide +kernel) (by decide +kernel)
theorem zw_929 : Cond.instanceMethod yX10_best ∈ zW := zmem 929 (by decide +kernel) (by decide +kernel)
theorem zw_930 : Cond.code yX10_best cX10_best 5 (some .int) ∈ zW := zmem 930 (by decide +kernel) (by decide +kernel)
theorem zw_931 : Cond.methodLink "LateLettersModel" 143 yX10_lateBy ∈ zW := zmem 931 (by decide +kernel) (by decide +kernel)
theorem zw_933 : Cond.instanceMethod yX10_lateBy ∈ zW := zmem 933 (by decide +kernel) (by decide +kernel)
theorem zw_934 : Cond.code yX10_lateBy cX10_lateBy 10 (some .int) ∈ zW := zmem 934 (by decide +kernel) (by decide +kernel)
theorem zw_935 : Cond.methodLink "LateLettersLaw" 39 yX10_person ∈ zW := zmem 935 (by decide +kernel) (by decide +kernel)
theorem zw_936 : Cond.instanceMethod yX10_person ∈ zW := zmem 936 (by decide +kernel) (by decide +kernel)
theorem zw_937 : Cond.selects "LateLettersModel" yX10_person yX10_person ∈ zW := zmem 937 (by decide +kernel) (by decide +kernel)
theorem zw_938 : Cond.code yX10_person cX10_person 3 (some .int) ∈ zW := zmem 938 (by decide +kernel) (by decide +kernel)
theorem zw_939 : Cond.methodLink "LateLettersModel" 156 yX10_isPerson ∈ zW := zmem 939 (by decide +kernel) (by decide +kernel)
theorem zw_941 : Cond.instanceMethod yX10_isPerson ∈ zW := zmem 941 (by decide +kernel) (by decide +kernel)
theorem zw_942 : Cond.code yX10_isPerson cX10_isPerson 2 (some .boolean) ∈ zW := zmem 942 (by decide +kernel) (by decide +kernel)
theorem zw_943 : Cond.methodLink "LateLettersModel" 160 yX10_placeOf ∈ zW := zmem 943 (by decide +kernel) (by decide +kernel)
theorem zw_945 : Cond.instanceMethod yX10_placeOf ∈ zW := zmem 945 (by decide +kernel) (by decide +kernel)
theorem zw_946 : Cond.code yX10_placeOf cX10_placeOf 4 (some .int) ∈ zW := zmem 946 (by decide +kernel) (by decide +kernel)
theorem zw_947 : Cond.methodLink "LateLettersModel" 163 yX10_toldBy ∈ zW := zmem 947 (by decide +kernel) (by decide +kernel)
theorem zw_949 : Cond.instanceMethod yX10_toldBy ∈ zW := zmem 949 (by decide +kernel) (by decide +kernel)
theorem zw_950 : Cond.code yX10_toldBy cX10_toldBy 5 (some .int) ∈ zW := zmem 950 (by decide +kernel) (by decide +kernel)
theorem zw_951 : Cond.methodLink "LateLettersModel" 166 yX10_slack ∈ zW := zmem 951 (by decide +kernel) (by decide +kernel)
theorem zw_953 : Cond.instanceMethod yX10_slack ∈ zW := zmem 953 (by decide +kernel) (by decide +kernel)
theorem zw_954 : Cond.code yX10_slack cX10_slack 5 (some .int) ∈ zW := zmem 954 (by decide +kernel) (by decide +kernel)
theorem zw_955 : Cond.methodLink "LateLettersModel" 169 yX10_gathered ∈ zW := zmem 955 (by decide +kernel) (by decide +kernel)
theorem zw_957 : Cond.instanceMethod yX10_gathered ∈ zW := zmem 957 (by decide +kernel) (by decide +kernel)
theorem zw_958 : Cond.code yX10_gathered cX10_gathered 3 (some .int) ∈ zW := zmem 958 (by decide +kernel) (by decide +kernel)
theorem zw_959 : Cond.methodLink "LateLettersLaw" 43 yX10_plan ∈ zW := zmem 959 (by decide +kernel) (by decide +kernel)
theorem zw_960 : Cond.instanceMethod yX10_plan ∈ zW := zmem 960 (by decide +kernel) (by decide +kernel)
theorem zw_961 : Cond.selects "LateLettersModel" yX10_plan yX10_plan ∈ zW := zmem 961 (by decide +kernel) (by decide +kernel)
theorem zw_962 : Cond.code yX10_plan cX10_plan 2 (some .int) ∈ zW := zmem 962 (by decide +kernel) (by decide +kernel)
theorem zw_963 : Cond.methodLink "LateLettersLaw" 47 yX10_knows ∈ zW := zmem 963 (by decide +kernel) (by decide +kernel)
theorem zw_964 : Cond.instanceMethod yX10_knows ∈ zW := zmem 964 (by decide +kernel) (by decide +kernel)
theorem zw_965 : Cond.selects "LateLettersModel" yX10_knows yX10_knows ∈ zW := zmem 965 (by decide +kernel) (by decide +kernel)
theorem zw_966 : Cond.code yX10_knows cX10_knows 3 (some .int) ∈ zW := zmem 966 (by decide +kernel) (by decide +kernel)
theorem zw_967 : Cond.methodLink "LateLettersLaw" 51 yX10_last ∈ zW := zmem 967 (by decide +kernel) (by decide +kernel)
theorem zw_968 : Cond.instanceMethod yX10_last ∈ zW := zmem 968 (by decide +kernel) (by decide +kernel)
theorem zw_969 : Cond.selects "LateLettersModel" yX10_last yX10_last ∈ zW := zmem 969 (by decide +kernel) (by decide +kernel)
theorem zw_970 : Cond.code yX10_last cX10_last 2 (some .int) ∈ zW := zmem 970 (by decide +kernel) (by decide +kernel)
theorem zw_971 : Cond.methodLink "LateLettersLaw" 55 yX10_move ∈ zW := zmem 971 (by decide +kernel) (by decide +kernel)
theorem zw_972 : Cond.instanceMethod yX10_move ∈ zW := zmem 972 (by decide +kernel) (by decide +kernel)
theorem zw_973 : Cond.selects "LateLettersModel" yX10_move yX10_move ∈ zW := zmem 973 (by decide +kernel) (by decide +kernel)
theorem zw_974 : Cond.code yX10_move cX10_move 3 (some .int) ∈ zW := zmem 974 (by decide +kernel) (by decide +kernel)
theorem zw_975 : Cond.methodLink "LateLettersModel" 178 yX10_mayMove ∈ zW := zmem 975 (by decide +kernel) (by decide +kernel)
theorem zw_977 : Cond.instanceMethod yX10_mayMove ∈ zW := zmem 977 (by decide +kernel) (by decide +kernel)
theorem zw_978 : Cond.code yX10_mayMove cX10_mayMove 4 (some .boolean) ∈ zW := zmem 978 (by decide +kernel) (by decide +kernel)
theorem zw_979 : Cond.methodLink "LateLettersModel" 175 yX10_below ∈ zW := zmem 979 (by decide +kernel) (by decide +kernel)
theorem zw_981 : Cond.instanceMethod yX10_below ∈ zW := zmem 981 (by decide +kernel) (by decide +kernel)
theorem zw_982 : Cond.code yX10_below cX10_below 6 (some .int) ∈ zW := zmem 982 (by decide +kernel) (by decide +kernel)
theorem zw_983 : Cond.methodLink "LateLettersModel" 182 yX10_note ∈ zW := zmem 983 (by decide +kernel) (by decide +kernel)
theorem zw_985 : Cond.instanceMethod yX10_note ∈ zW := zmem 985 (by decide +kernel) (by decide +kernel)
theorem zw_986 : Cond.code yX10_note cX10_note 2 none ∈ zW := zmem 986 (by decide +kernel) (by decide +kernel)
theorem zw_987 : Cond.methodLink "LateLettersModel" 185 yX10_moveOn ∈ zW := zmem 987 (by decide +kernel) (by decide +kernel)
theorem zw_989 : Cond.instanceMethod yX10_moveOn ∈ zW := zmem 989 (by decide +kernel) (by decide +kernel)
theorem zw_990 : Cond.code yX10_moveOn cX10_moveOn 9 none ∈ zW := zmem 990 (by decide +kernel) (by decide +kernel)
theorem zw_991 : Cond.methodLink "LateLettersLaw" 59 yX10_change ∈ zW := zmem 991 (by decide +kernel) (by decide +kernel)
theorem zw_992 : Cond.instanceMethod yX10_change ∈ zW := zmem 992 (by decide +kernel) (by decide +kernel)
theorem zw_993 : Cond.selects "LateLettersModel" yX10_change yX10_change ∈ zW := zmem 993 (by decide +kernel) (by decide +kernel)
theorem zw_994 : Cond.code yX10_change cX10_change 2 (some .int) ∈ zW := zmem 994 (by decide +kernel) (by decide +kernel)
theorem zw_995 : Cond.methodLink "LateLettersModel" 189 yX10_isPair ∈ zW := zmem 995 (by decide +kernel) (by decide +kernel)
theorem zw_997 : Cond.instanceMethod yX10_isPair ∈ zW := zmem 997 (by decide +kernel) (by decide +kernel)
theorem zw_998 : Cond.code yX10_isPair cX10_isPair 2 (some .boolean) ∈ zW := zmem 998 (by decide +kernel) (by decide +kernel)
theorem zw_999 : Cond.methodLink "LateLettersModel" 192 yX10_mayChange ∈ zW := zmem 999 (by decide +kernel) (by decide +kernel)
theorem zw_1000 : Cond.static yX10_mayChange ∈ zW := zmem 1000 (by decide +kernel) (by decide +kernel)
theorem zw_1001 : Cond.code yX10_mayChange cX10_mayChange 2 (some .boolean) ∈ zW := zmem 1001 (by decide +kernel) (by decide +kernel)
theorem zw_1002 : Cond.methodLink "LateLettersModel" 196 yX10_changeOn ∈ zW := zmem 1002 (by decide +kernel) (by decide +kernel)
theorem zw_1003 : Cond.static yX10_changeOn ∈ zW := zmem 1003 (by decide +kernel) (by decide +kernel)
theorem zw_1004 : Cond.code yX10_changeOn cX10_changeOn 3 none ∈ zW := zmem 1004 (by decide +kernel) (by decide +kernel)
theorem zw_1005 : Cond.methodLink "LateLettersLaw" 63 yX10_quicken ∈ zW := zmem 1005 (by decide +kernel) (by decide +kernel)
theorem zw_1006 : Cond.instanceMethod yX10_quicken ∈ zW := zmem 1006 (by decide +kernel) (by decide +kernel)
theorem zw_1007 : Cond.selects "LateLettersModel" yX10_quicken yX10_quicken ∈ zW := zmem 1007 (by decide +kernel) (by decide +kernel)
theorem zw_1008 : Cond.code yX10_quicken cX10_quicken 1 (some .int) ∈ zW := zmem 1008 (by decide +kernel) (by decide +kernel)
theorem zw_1009 : Cond.methodLink "LateLettersLaw" 68 yX10_set ∈ zW := zmem 1009 (by decide +kernel) (by decide +kernel)
theorem zw_1010 : Cond.instanceMethod yX10_set ∈ zW := zmem 1010 (by decide +kernel) (by decide +kernel)
theorem zw_1011 : Cond.selects "LateLettersModel" yX10_set yX10_set ∈ zW := zmem 1011 (by decide +kernel) (by decide +kernel)
theorem zw_1012 : Cond.code yX10_set cX10_set 7 (some .int) ∈ zW := zmem 1012 (by decide +kernel) (by decide +kernel)
theorem zw_1013 : Cond.constantLong "LateLettersModel" 199 (Int64.ofInt (2)) ∈ zW := zmem 1013 (by decide +kernel) (by decide +kernel)
theorem zw_1014 : Cond.methodLink "LateLettersLaw" 72 yX10_undo ∈ zW := zmem 1014 (by decide +kernel) (by decide +kernel)
theorem zw_1015 : Cond.instanceMethod yX10_undo ∈ zW := zmem 1015 (by decide +kernel) (by decide +kernel)
theorem zw_1016 : Cond.selects "LateLettersModel" yX10_undo yX10_undo ∈ zW := zmem 1016 (by decide +kernel) (by decide +kernel)
theorem zw_1017 : Cond.code yX10_undo cX10_undo 2 (some .int) ∈ zW := zmem 1017 (by decide +kernel) (by decide +kernel)
theorem zw_1018 : Cond.methodLink "LateLettersLaw" 77 yX10_number ∈ zW := zmem 1018 (by decide +kernel) (by decide +kernel)
theorem zw_1019 : Cond.instanceMethod yX10_number ∈ zW := zmem 1019 (by decide +kernel) (by decide +kernel)
theorem zw_1020 : Cond.selects "LateLettersModel" yX10_number yX10_number ∈ zW := zmem 1020 (by decide +kernel) (by decide +kernel)
theorem zw_1021 : Cond.code yX10_number cX10_number 3 (some .long) ∈ zW := zmem 1021 (by decide +kernel) (by decide +kernel)
theorem zw_1022 : Cond.constantLong "LateLettersModel" 201 (Int64.ofInt (-1)) ∈ zW := zmem 1022 (by decide +kernel) (by decide +kernel)
theorem zw_1023 : Cond.constantLong "LateLettersModel" 203 (Int64.ofInt (60)) ∈ zW := zmem 1023 (by decide +kernel) (by decide +kernel)
theorem zw_1024 : Cond.constantLong "LateLettersModel" 205 (Int64.ofInt (-2)) ∈ zW := zmem 1024 (by decide +kernel) (by decide +kernel)
theorem zw_1025 : Cond.methodLink "LateLettersModel" 207 yX10_layMany ∈ zW := zmem 1025 (by decide +kernel) (by decide +kernel)
theorem zw_1027 : Cond.instanceMethod yX10_layMany ∈ zW := zmem 1027 (by decide +kernel) (by decide +kernel)
theorem zw_1028 : Cond.code yX10_layMany cX10_layMany 6 none ∈ zW := zmem 1028 (by decide +kernel) (by decide +kernel)
theorem zw_1029 : Cond.methodLink "LateLettersLaw" 81 yX10_soon ∈ zW := zmem 1029 (by decide +kernel) (by decide +kernel)
theorem zw_1030 : Cond.instanceMethod yX10_soon ∈ zW := zmem 1030 (by decide +kernel) (by decide +kernel)
theorem zw_1031 : Cond.selects "LateLettersModel" yX10_soon yX10_soon ∈ zW := zmem 1031 (by decide +kernel) (by decide +kernel)
theorem zw_1032 : Cond.code yX10_soon cX10_soon 4 (some .int) ∈ zW := zmem 1032 (by decide +kernel) (by decide +kernel)
theorem zw_1033 : Cond.constantLong "LateLettersModel" 211 (Int64.ofInt (99999)) ∈ zW := zmem 1033 (by decide +kernel) (by decide +kernel)
theorem zw_1034 : Cond.methodLink "LateLettersLaw" 85 yX10_knowers ∈ zW := zmem 1034 (by decide +kernel) (by decide +kernel)
theorem zw_1035 : Cond.instanceMethod yX10_knowers ∈ zW := zmem 1035 (by decide +kernel) (by decide +kernel)
theorem zw_1036 : Cond.selects "LateLettersModel" yX10_knowers yX10_knowers ∈ zW := zmem 1036 (by decide +kernel) (by decide +kernel)
theorem zw_1037 : Cond.code yX10_knowers cX10_knowers 5 (some .int) ∈ zW := zmem 1037 (by decide +kernel) (by decide +kernel)
theorem zw_1038 : Cond.constantLong "LateLettersModel" 213 (Int64.ofInt (999)) ∈ zW := zmem 1038 (by decide +kernel) (by decide +kernel)
theorem zw_1039 : Cond.methodLink "LateLettersLaw" 92 yX10_judge ∈ zW := zmem 1039 (by decide +kernel) (by decide +kernel)
theorem zw_1040 : Cond.instanceMethod yX10_judge ∈ zW := zmem 1040 (by decide +kernel) (by decide +kernel)
theorem zw_1041 : Cond.selects "LateLettersModel" yX10_judge yX10_judge ∈ zW := zmem 1041 (by decide +kernel) (by decide +kernel)
theorem zw_1042 : Cond.code yX10_judge cX10_judge 6 (some .int) ∈ zW := zmem 1042 (by decide +kernel) (by decide +kernel)
theorem zw_1043 : Cond.constantLong "LateLettersModel" 217 (Int64.ofInt (4)) ∈ zW := zmem 1043 (by decide +kernel) (by decide +kernel)
theorem zw_1044 : Cond.methodLink "LateLettersModel" 219 yX10_thousands ∈ zW := zmem 1044 (by decide +kernel) (by decide +kernel)
theorem zw_1045 : Cond.static yX10_thousands ∈ zW := zmem 1045 (by decide +kernel) (by decide +kernel)
theorem zw_1046 : Cond.code yX10_thousands cX10_thousands 4 (some .long) ∈ zW := zmem 1046 (by decide +kernel) (by decide +kernel)
theorem zw_1047 : Cond.constantLong "LateLettersModel" 215 (Int64.ofInt (1000)) ∈ zW := zmem 1047 (by decide +kernel) (by decide +kernel)
theorem zw_1048 : Cond.methodLink "LateLettersModel" 223 yX10_judged ∈ zW := zmem 1048 (by decide +kernel) (by decide +kernel)
theorem zw_1050 : Cond.instanceMethod yX10_judged ∈ zW := zmem 1050 (by decide +kernel) (by decide +kernel)
theorem zw_1051 : Cond.code yX10_judged cX10_judged 4 (some .boolean) ∈ zW := zmem 1051 (by decide +kernel) (by decide +kernel)
theorem zw_1052 : Cond.methodLink "LateLettersLaw" 96 yX10_see ∈ zW := zmem 1052 (by decide +kernel) (by decide +kernel)
theorem zw_1053 : Cond.instanceMethod yX10_see ∈ zW := zmem 1053 (by decide +kernel) (by decide +kernel)
theorem zw_1054 : Cond.selects "LateLettersModel" yX10_see yX10_see ∈ zW := zmem 1054 (by decide +kernel) (by decide +kernel)
theorem zw_1055 : Cond.code yX10_see cX10_see 3 (some .int) ∈ zW := zmem 1055 (by decide +kernel) (by decide +kernel)
theorem zw_1056 : Cond.constantLong "LateLettersModel" 227 (Int64.ofInt (99)) ∈ zW := zmem 1056 (by decide +kernel) (by decide +kernel)
theorem zw_1057 : Cond.methodLink "LateLettersLaw" 100 yX10_unsee ∈ zW := zmem 1057 (by decide +kernel) (by decide +kernel)
theorem zw_1058 : Cond.instanceMethod yX10_unsee ∈ zW := zmem 1058 (by decide +kernel) (by decide +kernel)
theorem zw_1059 : Cond.selects "LateLettersModel" yX10_unsee yX10_unsee ∈ zW := zmem 1059 (by decide +kernel) (by decide +kernel)
theorem zw_1060 : Cond.code yX10_unsee cX10_unsee 2 (some .int) ∈ zW := zmem 1060 (by decide +kernel) (by decide +kernel)
theorem zw_1061 : Cond.methodLink "LateLettersLaw" 104 yX10_which ∈ zW := zmem 1061 (by decide +kernel) (by decide +kernel)
theorem zw_1062 : Cond.instanceMethod yX10_which ∈ zW := zmem 1062 (by decide +kernel) (by decide +kernel)
theorem zw_1063 : Cond.selects "LateLettersModel" yX10_which yX10_which ∈ zW := zmem 1063 (by decide +kernel) (by decide +kernel)
theorem zw_1064 : Cond.code yX10_which cX10_which 6 (some .int) ∈ zW := zmem 1064 (by decide +kernel) (by decide +kernel)
theorem zw_1065 : Cond.methodLink "LateLettersLaw" 109 yX10_share ∈ zW := zmem 1065 (by decide +kernel) (by decide +kernel)
theorem zw_1066 : Cond.instanceMethod yX10_share ∈ zW := zmem 1066 (by decide +kernel) (by decide +kernel)
theorem zw_1067 : Cond.selects "LateLettersModel" yX10_share yX10_share ∈ zW := zmem 1067 (by decide +kernel) (by decide +kernel)
theorem zw_1068 : Cond.code yX10_share cX10_share 6 (some .int) ∈ zW := zmem 1068 (by decide +kernel) (by decide +kernel)
theorem zw_1069 : Cond.methodLink "LateLettersModel" 229 yX10_lastBy ∈ zW := zmem 1069 (by decide +kernel) (by decide +kernel)
theorem zw_1071 : Cond.instanceMethod yX10_lastBy ∈ zW := zmem 1071 (by decide +kernel) (by decide +kernel)
theorem zw_1072 : Cond.code yX10_lastBy cX10_lastBy 3 (some .int) ∈ zW := zmem 1072 (by decide +kernel) (by decide +kernel)
theorem zw_1073 : Cond.methodLink "LateLettersModel" 232 yX10_ones ∈ zW := zmem 1073 (by decide +kernel) (by decide +kernel)
theorem zw_1074 : Cond.static yX10_ones ∈ zW := zmem 1074 (by decide +kernel) (by decide +kernel)
theorem zw_1075 : Cond.code yX10_ones cX10_ones 3 (some .int) ∈ zW := zmem 1075 (by decide +kernel) (by decide +kernel)
theorem zw_1076 : Cond.methodLink "LateLettersModel" 235 yX10_factorial ∈ zW := zmem 1076 (by decide +kernel) (by decide +kernel)
theorem zw_1077 : Cond.static yX10_factorial ∈ zW := zmem 1077 (by decide +kernel) (by decide +kernel)
theorem zw_1078 : Cond.code yX10_factorial cX10_factorial 3 (some .int) ∈ zW := zmem 1078 (by decide +kernel) (by decide +kernel)
theorem zw_1079 : Cond.methodLink "LateLettersModel" 238 yX10_fraction ∈ zW := zmem 1079 (by decide +kernel) (by decide +kernel)
theorem zw_1080 : Cond.static yX10_fraction ∈ zW := zmem 1080 (by decide +kernel) (by decide +kernel)
theorem zw_1081 : Cond.code yX10_fraction cX10_fraction 6 (some .int) ∈ zW := zmem 1081 (by decide +kernel) (by decide +kernel)
theorem zw_1082 : Cond.methodLink "LateLettersLaw" 114 yX10_chance ∈ zW := zmem 1082 (by decide +kernel) (by decide +kernel)
theorem zw_1083 : Cond.instanceMethod yX10_chance ∈ zW := zmem 1083 (by decide +kernel) (by decide +kernel)
theorem zw_1084 : Cond.selects "LateLettersModel" yX10_chance yX10_chance ∈ zW := zmem 1084 (by decide +kernel) (by decide +kernel)
theorem zw_1085 : Cond.code yX10_chance cX10_chance 8 (some .int) ∈ zW := zmem 1085 (by decide +kernel) (by decide +kernel)
theorem zw_1086 : Cond.constantLong "LateLettersModel" 242 (Int64.ofInt (10)) ∈ zW := zmem 1086 (by decide +kernel) (by decide +kernel)
theorem zw_1087 : Cond.methodLink "LateLettersModel" 244 yX10_knowing ∈ zW := zmem 1087 (by decide +kernel) (by decide +kernel)
theorem zw_1089 : Cond.instanceMethod yX10_knowing ∈ zW := zmem 1089 (by decide +kernel) (by decide +kernel)
theorem zw_1090 : Cond.code yX10_knowing cX10_knowing 5 (some .int) ∈ zW := zmem 1090 (by decide +kernel) (by decide +kernel)
theorem zw_1091 : Cond.methodLink "LateLettersModel" 247 yX10_power ∈ zW := zmem 1091 (by decide +kernel) (by decide +kernel)
theorem zw_1092 : Cond.static yX10_power ∈ zW := zmem 1092 (by decide +kernel) (by decide +kernel)
theorem zw_1093 : Cond.code yX10_power cX10_power 4 (some .int) ∈ zW := zmem 1093 (by decide +kernel) (by decide +kernel)
theorem zw_1094 : Cond.methodLink "LateLettersLaw" 119 yX10_seed ∈ zW := zmem 1094 (by decide +kernel) (by decide +kernel)
theorem zw_1095 : Cond.instanceMethod yX10_seed ∈ zW := zmem 1095 (by decide +kernel) (by decide +kernel)
theorem zw_1096 : Cond.selects "LateLettersModel" yX10_seed yX10_seed ∈ zW := zmem 1096 (by decide +kernel) (by decide +kernel)
theorem zw_1097 : Cond.code yX10_seed cX10_seed 5 (some .long) ∈ zW := zmem 1097 (by decide +kernel) (by decide +kernel)
theorem zw_1098 : Cond.methodLink "LateLettersLaw" 123 yX10_drawn ∈ zW := zmem 1098 (by decide +kernel) (by decide +kernel)
theorem zw_1099 : Cond.instanceMethod yX10_drawn ∈ zW := zmem 1099 (by decide +kernel) (by decide +kernel)
theorem zw_1100 : Cond.selects "LateLettersModel" yX10_drawn yX10_drawn ∈ zW := zmem 1100 (by decide +kernel) (by decide +kernel)
theorem zw_1101 : Cond.code yX10_drawn cX10_drawn 6 (some .int) ∈ zW := zmem 1101 (by decide +kernel) (by decide +kernel)
theorem zw_1102 : Cond.constantLong "LateLettersModel" 255 (Int64.ofInt (40)) ∈ zW := zmem 1102 (by decide +kernel) (by decide +kernel)
theorem zw_1103 : Cond.constantLong "LateLettersModel" 257 (Int64.ofInt (6364136223846793005)) ∈ zW := zmem 1103 (by decide +kernel) (by decide +kernel)
theorem zw_1104 : Cond.constantLong "LateLettersModel" 259 (Int64.ofInt (1442695040888963407)) ∈ zW := zmem 1104 (by decide +kernel) (by decide +kernel)
theorem zw_1105 : Cond.methodLink "LateLettersLaw" 127 yX10_keep ∈ zW := zmem 1105 (by decide +kernel) (by decide +kernel)
theorem zw_1106 : Cond.instanceMethod yX10_keep ∈ zW := zmem 1106 (by decide +kernel) (by decide +kernel)
theorem zw_1107 : Cond.selects "LateLettersModel" yX10_keep yX10_keep ∈ zW := zmem 1107 (by decide +kernel) (by decide +kernel)
theorem zw_1108 : Cond.code yX10_keep cX10_keep 3 (some .int) ∈ zW := zmem 1108 (by decide +kernel) (by decide +kernel)
theorem zw_1109 : Cond.methodLink "LateLettersLaw" 131 yX10_again ∈ zW := zmem 1109 (by decide +kernel) (by decide +kernel)
theorem zw_1110 : Cond.instanceMethod yX10_again ∈ zW := zmem 1110 (by decide +kernel) (by decide +kernel)
theorem zw_1111 : Cond.selects "LateLettersModel" yX10_again yX10_again ∈ zW := zmem 1111 (by decide +kernel) (by decide +kernel)
theorem zw_1112 : Cond.code yX10_again cX10_again 3 (some .int) ∈ zW := zmem 1112 (by decide +kernel) (by decide +kernel)
theorem zw_1113 : Cond.constantLong "LateLettersLaw" 86 (Int64.ofInt (4294967295)) ∈ zW := zmem 1113 (by decide +kernel) (by decide +kernel)
theorem zin_0 : ∀ w ∈ u_ws RX0 TX0 3, w ∈ zW := zins [186, 188, 190] (by decide +kernel) (by decide +kernel)
theorem zin_1 : ∀ w ∈ u_ws RX1 TX1 1, w ∈ zW := zins [144] (by decide +kernel) (by decide +kernel)
theorem zin_2 : ∀ w ∈ u_ws RX2 TX2 3, w ∈ zW := zins [217, 219, 221] (by decide +kernel) (by decide +kernel)
theorem zin_3 : ∀ w ∈ u_ws RX3 TX3 1, w ∈ zW := zins [180] (by decide +kernel) (by decide +kernel)
theorem zin_4 : ∀ w ∈ u_ws RX4 TX4 2, w ∈ zW := zins [203, 205] (by decide +kernel) (by decide +kernel)
theorem zin_5 : ∀ w ∈ u_ws RX5 TX5 2, w ∈ zW := zins [132, 134] (by decide +kernel) (by decide +kernel)
theorem zin_6 : ∀ w ∈ u_ws RX6 TX6 7, w ∈ zW := zins [95, 97, 99, 101, 103, 105, 107] (by decide +kernel) (by decide +kernel)
theorem zin_7 : ∀ w ∈ u_ws RX7 TX7 2, w ∈ zW := zins [156, 158] (by decide +kernel) (by decide +kernel)
theorem zin_8 : ∀ w ∈ u_ws RX8 TX8 2, w ∈ zW := zins [119, 121] (by decide +kernel) (by decide +kernel)
theorem zin_9 : ∀ w ∈ u_ws RX9 TX9 11, w ∈ zW := zins [235, 237, 239, 241, 243, 245, 247, 249, 251, 253, 255] (by decide +kernel) (by decide +kernel)
theorem zin_10 : ∀ w ∈ u_ws RX10 TX10 25, w ∈ zW := zins [789, 791, 793, 795, 797, 799, 801, 803, 805, 807, 809, 811, 813, 815, 817, 819, 821, 823, 825, 827, 829, 831, 833, 835, 837] (by decide +kernel) (by decide +kernel)
theorem kX0_init : zceeI mX0_init 0 := ⟨⟨zw_66, zw_165, by decide +kernel, by decide⟩, zw_164, rfl, rfl⟩
theorem kX0_count : zceeV mX0_count 0 0 := ⟨⟨zw_66, zw_473, by decide +kernel, by decide⟩, zw_471, zw_472, _, _, rfl⟩
theorem kX0_forgetAll : zceeV mX0_forgetAll 0 0 := ⟨⟨zw_66, zw_352, by decide +kernel, by decide⟩, zw_350, zw_351, _, _, rfl⟩
theorem kX0_remember : zceeV mX0_remember 0 1 := ⟨⟨zw_66, zw_545, by decide +kernel, by decide⟩, zw_543, zw_544, _, _, rfl⟩
theorem kX0_takeBack : zceeV mX0_takeBack 0 1 := ⟨⟨zw_66, zw_601, by decide +kernel, by decide⟩, zw_599, zw_600, _, _, rfl⟩
theorem kX1_init : zceeI mX1_init 0 := ⟨⟨zw_64, zw_141, by decide +kernel, by decide⟩, zw_140, rfl, rfl⟩
theorem kX1_count : zceeV mX1_count 1 2 := ⟨⟨zw_64, zw_615, by decide +kernel, by decide⟩, zw_613, zw_614, _, _, rfl⟩
theorem kX1_by : zceeV mX1_by 1 1 := ⟨⟨zw_64, zw_619, by decide +kernel, by decide⟩, zw_617, zw_618, _, _, rfl⟩
theorem kX2_init : zceeI mX2_init 0 := ⟨⟨zw_70, zw_212, by decide +kernel, by decide⟩, zw_211, rfl, rfl⟩
theorem kX2_count : zceeV mX2_count 2 0 := ⟨⟨zw_70, zw_477, by decide +kernel, by decide⟩, zw_475, zw_476, _, _, rfl⟩
theorem kX2_forgetAll : zceeV mX2_forgetAll 2 0 := ⟨⟨zw_70, zw_673, by decide +kernel, by decide⟩, zw_671, zw_672, _, _, rfl⟩
theorem kX2_add : zceeV mX2_add 2 2 := ⟨⟨zw_70, zw_664, by decide +kernel, by decide⟩, zw_662, zw_663, _, _, rfl⟩
theorem kX2_isSo : zceeV mX2_isSo 2 2 := ⟨⟨zw_70, zw_681, by decide +kernel, by decide⟩, zw_679, zw_680, _, _, rfl⟩
theorem kX3_init : zceeI mX3_init 1 := ⟨⟨zw_67, zw_171, by decide +kernel, by decide⟩, zw_170, rfl, rfl⟩
theorem kX3_store : zceeV mX3_store 3 2 := ⟨⟨zw_67, zw_549, by decide +kernel, by decide⟩, zw_547, zw_548, _, _, rfl⟩
theorem kX3_bring : zceeV mX3_bring 3 2 := ⟨⟨zw_67, zw_605, by decide +kernel, by decide⟩, zw_603, zw_604, _, _, rfl⟩
theorem kX3_placeAt : zceeV mX3_placeAt 3 1 := ⟨⟨zw_67, zw_553, by decide +kernel, by decide⟩, zw_552, zw_19, _, _, rfl⟩
theorem kX4_init : zceeI mX4_init 0 := ⟨⟨zw_69, zw_197, by decide +kernel, by decide⟩, zw_196, rfl, rfl⟩
theorem kX4_forgetAll : zceeV mX4_forgetAll 4 0 := ⟨⟨zw_69, zw_356, by decide +kernel, by decide⟩, zw_354, zw_355, _, _, rfl⟩
theorem kX4_fill : zceeV mX4_fill 4 2 := ⟨⟨zw_69, zw_747, by decide +kernel, by decide⟩, zw_745, zw_746, _, _, rfl⟩
theorem kX4_fetch : zceeV mX4_fetch 4 2 := ⟨⟨zw_69, zw_756, by decide +kernel, by decide⟩, zw_754, zw_755, _, _, rfl⟩
theorem kX5_init : zceeI mX5_init 0 := ⟨⟨zw_63, zw_128, by decide +kernel, by decide⟩, zw_127, rfl, rfl⟩
theorem kX5_layQuickPlan : zceeV mX5_layQuickPlan 5 1 := ⟨⟨zw_63, zw_420, by decide +kernel, by decide⟩, zw_418, zw_419, _, _, rfl⟩
theorem kX5_leastLast : zceeV mX5_leastLast 5 1 := ⟨⟨zw_63, zw_457, by decide +kernel, by decide⟩, zw_455, zw_456, _, _, rfl⟩
theorem kX5_leastLastFrom : zceeV mX5_leastLastFrom 5 3 := ⟨⟨zw_63, zw_461, by decide +kernel, by decide⟩, zw_460, zw_15, _, _, rfl⟩
theorem kX5_begin : zceeV mX5_begin 5 1 := ⟨⟨zw_63, zw_424, by decide +kernel, by decide⟩, zw_423, zw_10, _, _, rfl⟩
theorem kX5_isKnower : zceeV mX5_isKnower 5 1 := ⟨⟨zw_63, zw_439, by decide +kernel, by decide⟩, zw_438, zw_12, _, _, rfl⟩
theorem kX5_soonest : zceeV mX5_soonest 5 1 := ⟨⟨zw_63, zw_435, by decide +kernel, by decide⟩, zw_434, zw_11, _, _, rfl⟩
theorem kX5_leastDelayed : zceeV mX5_leastDelayed 5 1 := ⟨⟨zw_63, zw_444, by decide +kernel, by decide⟩, zw_443, zw_13, _, _, rfl⟩
theorem kX5_isLessDelayed : zceeS mX5_isLessDelayed 3 := ⟨⟨zw_63, zw_447, by decide +kernel, by decide⟩, zw_446⟩
theorem kX5_tell : zceeV mX5_tell 5 3 := ⟨⟨zw_63, zw_452, by decide +kernel, by decide⟩, zw_451, zw_14, _, _, rfl⟩
theorem kX5_takeBack : zceeV mX5_takeBack 5 3 := ⟨⟨zw_63, zw_468, by decide +kernel, by decide⟩, zw_467, zw_16, _, _, rfl⟩
theorem kX6_init : zceeI mX6_init 0 := ⟨⟨zw_61, zw_86, by decide +kernel, by decide⟩, zw_85, rfl, rfl⟩
theorem kX6_become : zceeV mX6_become 6 1 := ⟨⟨zw_61, zw_413, by decide +kernel, by decide⟩, zw_411, zw_412, _, _, rfl⟩
theorem kX6_startWith : zceeV mX6_startWith 6 2 := ⟨⟨zw_61, zw_335, by decide +kernel, by decide⟩, zw_333, zw_334, _, _, rfl⟩
theorem kX6_emptyPlan : zceeV mX6_emptyPlan 6 0 := ⟨⟨zw_61, zw_430, by decide +kernel, by decide⟩, zw_428, zw_429, _, _, rfl⟩
theorem kX6_putLast : zceeV mX6_putLast 6 2 := ⟨⟨zw_61, zw_348, by decide +kernel, by decide⟩, zw_346, zw_347, _, _, rfl⟩
theorem kX6_people : zceeV mX6_people 6 0 := ⟨⟨zw_61, zw_404, by decide +kernel, by decide⟩, zw_402, zw_403, _, _, rfl⟩
theorem kX6_news : zceeV mX6_news 6 0 := ⟨⟨zw_61, zw_365, by decide +kernel, by decide⟩, zw_363, zw_364, _, _, rfl⟩
theorem kX6_standing : zceeV mX6_standing 6 0 := ⟨⟨zw_61, zw_369, by decide +kernel, by decide⟩, zw_367, zw_368, _, _, rfl⟩
theorem kX6_hasPerson : zceeV mX6_hasPerson 6 1 := ⟨⟨zw_61, zw_485, by decide +kernel, by decide⟩, zw_483, zw_484, _, _, rfl⟩
theorem kX6_hasNews : zceeV mX6_hasNews 6 1 := ⟨⟨zw_61, zw_525, by decide +kernel, by decide⟩, zw_523, zw_524, _, _, rfl⟩
theorem kX6_hasPlace : zceeV mX6_hasPlace 6 1 := ⟨⟨zw_61, zw_516, by decide +kernel, by decide⟩, zw_514, zw_515, _, _, rfl⟩
theorem kX6_delayOf : zceeV mX6_delayOf 6 1 := ⟨⟨zw_61, zw_392, by decide +kernel, by decide⟩, zw_390, zw_391, _, _, rfl⟩
theorem kX6_gapOf : zceeV mX6_gapOf 6 1 := ⟨⟨zw_61, zw_396, by decide +kernel, by decide⟩, zw_394, zw_395, _, _, rfl⟩
theorem kX6_tellerOf : zceeV mX6_tellerOf 6 1 := ⟨⟨zw_61, zw_382, by decide +kernel, by decide⟩, zw_380, zw_381, _, _, rfl⟩
theorem kX6_personAt : zceeV mX6_personAt 6 1 := ⟨⟨zw_61, zw_373, by decide +kernel, by decide⟩, zw_371, zw_372, _, _, rfl⟩
theorem kX6_placeOf : zceeV mX6_placeOf 6 1 := ⟨⟨zw_61, zw_492, by decide +kernel, by decide⟩, zw_490, zw_491, _, _, rfl⟩
theorem kX6_countToldBy : zceeV mX6_countToldBy 6 1 := ⟨⟨zw_61, zw_497, by decide +kernel, by decide⟩, zw_495, zw_496, _, _, rfl⟩
theorem kX6_branchOf : zceeV mX6_branchOf 6 1 := ⟨⟨zw_61, zw_541, by decide +kernel, by decide⟩, zw_539, zw_540, _, _, rfl⟩
theorem kX6_setDelay : zceeV mX6_setDelay 6 2 := ⟨⟨zw_61, zw_339, by decide +kernel, by decide⟩, zw_337, zw_338, _, _, rfl⟩
theorem kX6_setGap : zceeV mX6_setGap 6 2 := ⟨⟨zw_61, zw_344, by decide +kernel, by decide⟩, zw_342, zw_343, _, _, rfl⟩
theorem kX6_tellAnew : zceeV mX6_tellAnew 6 3 := ⟨⟨zw_61, zw_589, by decide +kernel, by decide⟩, zw_587, zw_588, _, _, rfl⟩
theorem kX6_giveTeller : zceeV mX6_giveTeller 6 2 := ⟨⟨zw_61, zw_558, by decide +kernel, by decide⟩, zw_556, zw_557, _, _, rfl⟩
theorem kX6_sendBehindAll : zceeV mX6_sendBehindAll 6 1 := ⟨⟨zw_61, zw_563, by decide +kernel, by decide⟩, zw_562, zw_20, _, _, rfl⟩
theorem kX6_exchange : zceeV mX6_exchange 6 1 := ⟨⟨zw_61, zw_574, by decide +kernel, by decide⟩, zw_572, zw_573, _, _, rfl⟩
theorem kX7_init : zceeI mX7_init 0 := ⟨⟨zw_65, zw_152, by decide +kernel, by decide⟩, zw_151, rfl, rfl⟩
theorem kX7_length : zceeV mX7_length 7 0 := ⟨⟨zw_65, zw_272, by decide +kernel, by decide⟩, zw_270, zw_271, _, _, rfl⟩
theorem kX7_add : zceeV mX7_add 7 1 := ⟨⟨zw_65, zw_265, by decide +kernel, by decide⟩, zw_263, zw_264, _, _, rfl⟩
theorem kX7_clear : zceeV mX7_clear 7 0 := ⟨⟨zw_65, zw_280, by decide +kernel, by decide⟩, zw_278, zw_279, _, _, rfl⟩
theorem kX7_firstFault : zceeV mX7_firstFault 7 0 := ⟨⟨zw_65, zw_288, by decide +kernel, by decide⟩, zw_286, zw_287, _, _, rfl⟩
theorem kX7_tellInto : zceeV mX7_tellInto 7 1 := ⟨⟨zw_65, zw_331, by decide +kernel, by decide⟩, zw_329, zw_330, _, _, rfl⟩
theorem kX7_figureAt : zceeV mX7_figureAt 7 1 := ⟨⟨zw_65, zw_304, by decide +kernel, by decide⟩, zw_303, zw_3, _, _, rfl⟩
theorem kX7_isFigure : zceeV mX7_isFigure 7 3 := ⟨⟨zw_65, zw_300, by decide +kernel, by decide⟩, zw_299, zw_2, _, _, rfl⟩
theorem kX7_planStart : zceeV mX7_planStart 7 0 := ⟨⟨zw_65, zw_311, by decide +kernel, by decide⟩, zw_310, zw_4, _, _, rfl⟩
theorem kX7_wholeLength : zceeV mX7_wholeLength 7 0 := ⟨⟨zw_65, zw_315, by decide +kernel, by decide⟩, zw_314, zw_5, _, _, rfl⟩
theorem kX7_fits : zceeV mX7_fits 7 1 := ⟨⟨zw_65, zw_292, by decide +kernel, by decide⟩, zw_291, zw_0, _, _, rfl⟩
theorem kX7_fitsInHead : zceeV mX7_fitsInHead 7 1 := ⟨⟨zw_65, zw_296, by decide +kernel, by decide⟩, zw_295, zw_1, _, _, rfl⟩
theorem kX7_fitsInPlan : zceeV mX7_fitsInPlan 7 2 := ⟨⟨zw_65, zw_319, by decide +kernel, by decide⟩, zw_318, zw_6, _, _, rfl⟩
theorem kX7_stands : zceeV mX7_stands 7 3 := ⟨⟨zw_65, zw_323, by decide +kernel, by decide⟩, zw_322, zw_7, _, _, rfl⟩
theorem kX8_init : zceeI mX8_init 0 := ⟨⟨zw_62, zw_115, by decide +kernel, by decide⟩, zw_114, rfl, rfl⟩
theorem kX8_follow : zceeV mX8_follow 8 1 := ⟨⟨zw_62, zw_360, by decide +kernel, by decide⟩, zw_358, zw_359, _, _, rfl⟩
theorem kX8_send : zceeV mX8_send 8 3 := ⟨⟨zw_62, zw_378, by decide +kernel, by decide⟩, zw_377, zw_8, _, _, rfl⟩
theorem kX8_tickOf : zceeV mX8_tickOf 8 2 := ⟨⟨zw_62, zw_386, by decide +kernel, by decide⟩, zw_384, zw_385, _, _, rfl⟩
theorem kX9_init : zceeI mX9_init 0 := ⟨⟨zw_60, zw_78, by decide +kernel, by decide⟩, zw_77, rfl, rfl⟩
theorem kX9_write : zceeV mX9_write 9 1 := ⟨⟨zw_60, zw_261, by decide +kernel, by decide⟩, zw_259, zw_260, _, _, rfl⟩
theorem kX9_wipe : zceeV mX9_wipe 9 0 := ⟨⟨zw_60, zw_276, by decide +kernel, by decide⟩, zw_274, zw_275, _, _, rfl⟩
theorem kX9_fault : zceeV mX9_fault 9 0 := ⟨⟨zw_60, zw_284, by decide +kernel, by decide⟩, zw_282, zw_283, _, _, rfl⟩
theorem kX9_telling : zceeV mX9_telling 9 0 := ⟨⟨zw_60, zw_327, by decide +kernel, by decide⟩, zw_325, zw_326, _, _, rfl⟩
theorem kX9_about : zceeV mX9_about 9 1 := ⟨⟨zw_60, zw_400, by decide +kernel, by decide⟩, zw_398, zw_399, _, _, rfl⟩
theorem kX9_person : zceeV mX9_person 9 2 := ⟨⟨zw_60, zw_481, by decide +kernel, by decide⟩, zw_479, zw_480, _, _, rfl⟩
theorem kX9_plan : zceeV mX9_plan 9 1 := ⟨⟨zw_60, zw_512, by decide +kernel, by decide⟩, zw_510, zw_511, _, _, rfl⟩
theorem kX9_knows : zceeV mX9_knows 9 2 := ⟨⟨zw_60, zw_521, by decide +kernel, by decide⟩, zw_519, zw_520, _, _, rfl⟩
theorem kX9_last : zceeV mX9_last 9 1 := ⟨⟨zw_60, zw_529, by decide +kernel, by decide⟩, zw_527, zw_528, _, _, rfl⟩
theorem kX9_move : zceeV mX9_move 9 2 := ⟨⟨zw_60, zw_534, by decide +kernel, by decide⟩, zw_532, zw_533, _, _, rfl⟩
theorem kX9_change : zceeV mX9_change 9 1 := ⟨⟨zw_60, zw_567, by decide +kernel, by decide⟩, zw_565, zw_566, _, _, rfl⟩
theorem kX9_quicken : zceeV mX9_quicken 9 0 := ⟨⟨zw_60, zw_578, by decide +kernel, by decide⟩, zw_576, zw_577, _, _, rfl⟩
theorem kX9_set : zceeV mX9_set 9 3 := ⟨⟨zw_60, zw_582, by decide +kernel, by decide⟩, zw_580, zw_581, _, _, rfl⟩
theorem kX9_undo : zceeV mX9_undo 9 0 := ⟨⟨zw_60, zw_597, by decide +kernel, by decide⟩, zw_595, zw_596, _, _, rfl⟩
theorem kX9_number : zceeV mX9_number 9 2 := ⟨⟨zw_60, zw_609, by decide +kernel, by decide⟩, zw_607, zw_608, _, _, rfl⟩
theorem kX9_soon : zceeV mX9_soon 9 2 := ⟨⟨zw_60, zw_624, by decide +kernel, by decide⟩, zw_622, zw_623, _, _, rfl⟩
theorem kX9_knowers : zceeV mX9_knowers 9 2 := ⟨⟨zw_60, zw_629, by decide +kernel, by decide⟩, zw_627, zw_628, _, _, rfl⟩
theorem kX9_judge : zceeV mX9_judge 9 2 := ⟨⟨zw_60, zw_633, by decide +kernel, by decide⟩, zw_631, zw_632, _, _, rfl⟩
theorem kX9_see : zceeV mX9_see 9 2 := ⟨⟨zw_60, zw_660, by decide +kernel, by decide⟩, zw_658, zw_659, _, _, rfl⟩
theorem kX9_unsee : zceeV mX9_unsee 9 0 := ⟨⟨zw_60, zw_669, by decide +kernel, by decide⟩, zw_667, zw_668, _, _, rfl⟩
theorem kX9_which : zceeV mX9_which 9 1 := ⟨⟨zw_60, zw_677, by decide +kernel, by decide⟩, zw_675, zw_676, _, _, rfl⟩
theorem kX9_share : zceeV mX9_share 9 2 := ⟨⟨zw_60, zw_688, by decide +kernel, by decide⟩, zw_686, zw_687, _, _, rfl⟩
theorem kX9_chance : zceeV mX9_chance 9 3 := ⟨⟨zw_60, zw_720, by decide +kernel, by decide⟩, zw_718, zw_719, _, _, rfl⟩
theorem kX9_seed : zceeV mX9_seed 9 1 := ⟨⟨zw_60, zw_729, by decide +kernel, by decide⟩, zw_727, zw_728, _, _, rfl⟩
theorem kX9_drawn : zceeV mX9_drawn 9 1 := ⟨⟨zw_60, zw_733, by decide +kernel, by decide⟩, zw_731, zw_732, _, _, rfl⟩
theorem kX9_keep : zceeV mX9_keep 9 1 := ⟨⟨zw_60, zw_743, by decide +kernel, by decide⟩, zw_741, zw_742, _, _, rfl⟩
theorem kX9_again : zceeV mX9_again 9 1 := ⟨⟨zw_60, zw_752, by decide +kernel, by decide⟩, zw_750, zw_751, _, _, rfl⟩
theorem kX9_refusalOfMove : zceeS mX9_refusalOfMove 3 := ⟨⟨zw_60, zw_537, by decide +kernel, by decide⟩, zw_536⟩
theorem kX9_refusalOfChange : zceeS mX9_refusalOfChange 2 := ⟨⟨zw_60, zw_570, by decide +kernel, by decide⟩, zw_569⟩
theorem kX9_refusalOfSet : zceeS mX9_refusalOfSet 4 := ⟨⟨zw_60, zw_585, by decide +kernel, by decide⟩, zw_584⟩
theorem kX9_lastIfQuick : zceeV mX9_lastIfQuick 9 0 := ⟨⟨zw_60, zw_409, by decide +kernel, by decide⟩, zw_408, zw_9, _, _, rfl⟩
theorem kX9_slackOf : zceeV mX9_slackOf 9 1 := ⟨⟨zw_60, zw_502, by decide +kernel, by decide⟩, zw_501, zw_17, _, _, rfl⟩
theorem kX9_gatheredFrom : zceeV mX9_gatheredFrom 9 1 := ⟨⟨zw_60, zw_507, by decide +kernel, by decide⟩, zw_506, zw_18, _, _, rfl⟩
theorem kX9_readDoings : zceeV mX9_readDoings 9 2 := ⟨⟨zw_60, zw_637, by decide +kernel, by decide⟩, zw_636, zw_21, _, _, rfl⟩
theorem kX9_canBe : zceeV mX9_canBe 9 3 := ⟨⟨zw_60, zw_644, by decide +kernel, by decide⟩, zw_643, zw_22, _, _, rfl⟩
theorem kX9_canBeMoved : zceeV mX9_canBeMoved 9 2 := ⟨⟨zw_60, zw_648, by decide +kernel, by decide⟩, zw_647, zw_23, _, _, rfl⟩
theorem kX9_canBeChanged : zceeV mX9_canBeChanged 9 1 := ⟨⟨zw_60, zw_652, by decide +kernel, by decide⟩, zw_651, zw_24, _, _, rfl⟩
theorem kX9_canBeDelayed : zceeV mX9_canBeDelayed 9 2 := ⟨⟨zw_60, zw_656, by decide +kernel, by decide⟩, zw_655, zw_25, _, _, rfl⟩
theorem kX9_peopleWhoseDelayMayCount : zceeV mX9_peopleWhoseDelayMayCount 9 0 := ⟨⟨zw_60, zw_692, by decide +kernel, by decide⟩, zw_691, zw_26, _, _, rfl⟩
theorem kX9_lastWhenCome : zceeV mX9_lastWhenCome 9 1 := ⟨⟨zw_60, zw_716, by decide +kernel, by decide⟩, zw_715, zw_27, _, _, rfl⟩
theorem kX9_chancesFrom : zceeV mX9_chancesFrom 9 4 := ⟨⟨zw_60, zw_725, by decide +kernel, by decide⟩, zw_724, zw_28, _, _, rfl⟩
theorem kX9_drawDelays : zceeV mX9_drawDelays 9 1 := ⟨⟨zw_60, zw_739, by decide +kernel, by decide⟩, zw_738, zw_29, _, _, rfl⟩
theorem kX9_factorial : zceeS mX9_factorial 1 := ⟨⟨zw_60, zw_710, by decide +kernel, by decide⟩, zw_709⟩
theorem kX9_partOfFraction : zceeS mX9_partOfFraction 3 := ⟨⟨zw_60, zw_695, by decide +kernel, by decide⟩, zw_694⟩
theorem kX9_commonDivisor : zceeS mX9_commonDivisor 2 := ⟨⟨zw_60, zw_701, by decide +kernel, by decide⟩, zw_700⟩
theorem kX9_at : zceeS mX9_at 2 := ⟨⟨zw_60, zw_307, by decide +kernel, by decide⟩, zw_306⟩
theorem kX9_put : zceeS mX9_put 3 := ⟨⟨zw_60, zw_268, by decide +kernel, by decide⟩, zw_267⟩
theorem kX10_init : zceeI mX10_init 0 := ⟨⟨zw_71, zw_762, by decide +kernel, by decide⟩, zw_761, rfl, rfl⟩
theorem kX10_copy : zceeS mX10_copy 2 := ⟨⟨zw_71, zw_882, by decide +kernel, by decide⟩, zw_881⟩
theorem kX10_in : zceeS mX10_in 3 := ⟨⟨zw_71, zw_848, by decide +kernel, by decide⟩, zw_847⟩
theorem kX10_has : zceeS mX10_has 2 := ⟨⟨zw_71, zw_875, by decide +kernel, by decide⟩, zw_874⟩
theorem kX10_ones : zceeS mX10_ones 1 := ⟨⟨zw_71, zw_1075, by decide +kernel, by decide⟩, zw_1074⟩
theorem kX10_power : zceeS mX10_power 2 := ⟨⟨zw_71, zw_1093, by decide +kernel, by decide⟩, zw_1092⟩
theorem kX10_factorial : zceeS mX10_factorial 1 := ⟨⟨zw_71, zw_1078, by decide +kernel, by decide⟩, zw_1077⟩
theorem kX10_fraction : zceeS mX10_fraction 3 := ⟨⟨zw_71, zw_1081, by decide +kernel, by decide⟩, zw_1080⟩
theorem kX10_isPerson : zceeV mX10_isPerson 10 1 := ⟨⟨zw_71, zw_942, by decide +kernel, by decide⟩, zw_941, zw_45, _, _, rfl⟩
theorem kX10_write : zceeV mX10_write 10 1 := ⟨⟨zw_71, zw_844, by decide +kernel, by decide⟩, zw_842, zw_843, _, _, rfl⟩
theorem kX10_wipe : zceeV mX10_wipe 10 0 := ⟨⟨zw_71, zw_852, by decide +kernel, by decide⟩, zw_850, zw_851, _, _, rfl⟩
theorem kX10_takeHead : zceeV mX10_takeHead 10 2 := ⟨⟨zw_71, zw_864, by decide +kernel, by decide⟩, zw_863, zw_31, _, _, rfl⟩
theorem kX10_takePart : zceeV mX10_takePart 10 2 := ⟨⟨zw_71, zw_872, by decide +kernel, by decide⟩, zw_871, zw_32, _, _, rfl⟩
theorem kX10_readText : zceeV mX10_readText 10 0 := ⟨⟨zw_71, zw_860, by decide +kernel, by decide⟩, zw_859, zw_30, _, _, rfl⟩
theorem kX10_fault : zceeV mX10_fault 10 0 := ⟨⟨zw_71, zw_856, by decide +kernel, by decide⟩, zw_854, zw_855, _, _, rfl⟩
theorem kX10_telling : zceeV mX10_telling 10 0 := ⟨⟨zw_71, zw_879, by decide +kernel, by decide⟩, zw_877, zw_878, _, _, rfl⟩
theorem kX10_layTold : zceeV mX10_layTold 10 2 := ⟨⟨zw_71, zw_898, by decide +kernel, by decide⟩, zw_897, zw_36, _, _, rfl⟩
theorem kX10_layTicks : zceeV mX10_layTicks 10 1 := ⟨⟨zw_71, zw_894, by decide +kernel, by decide⟩, zw_893, zw_35, _, _, rfl⟩
theorem kX10_lastOfNews : zceeV mX10_lastOfNews 10 2 := ⟨⟨zw_71, zw_890, by decide +kernel, by decide⟩, zw_889, zw_34, _, _, rfl⟩
theorem kX10_lastOf : zceeV mX10_lastOf 10 1 := ⟨⟨zw_71, zw_886, by decide +kernel, by decide⟩, zw_885, zw_33, _, _, rfl⟩
theorem kX10_nextBegin : zceeV mX10_nextBegin 10 2 := ⟨⟨zw_71, zw_918, by decide +kernel, by decide⟩, zw_917, zw_40, _, _, rfl⟩
theorem kX10_beginOne : zceeV mX10_beginOne 10 0 := ⟨⟨zw_71, zw_910, by decide +kernel, by decide⟩, zw_909, zw_38, _, _, rfl⟩
theorem kX10_tell : zceeV mX10_tell 10 3 := ⟨⟨zw_71, zw_926, by decide +kernel, by decide⟩, zw_925, zw_42, _, _, rfl⟩
theorem kX10_soonest : zceeV mX10_soonest 10 1 := ⟨⟨zw_71, zw_914, by decide +kernel, by decide⟩, zw_913, zw_39, _, _, rfl⟩
theorem kX10_quickest : zceeV mX10_quickest 10 1 := ⟨⟨zw_71, zw_922, by decide +kernel, by decide⟩, zw_921, zw_41, _, _, rfl⟩
theorem kX10_quick : zceeV mX10_quick 10 1 := ⟨⟨zw_71, zw_906, by decide +kernel, by decide⟩, zw_905, zw_37, _, _, rfl⟩
theorem kX10_lateBy : zceeV mX10_lateBy 10 1 := ⟨⟨zw_71, zw_934, by decide +kernel, by decide⟩, zw_933, zw_44, _, _, rfl⟩
theorem kX10_best : zceeV mX10_best 10 0 := ⟨⟨zw_71, zw_930, by decide +kernel, by decide⟩, zw_929, zw_43, _, _, rfl⟩
theorem kX10_about : zceeV mX10_about 10 1 := ⟨⟨zw_71, zw_902, by decide +kernel, by decide⟩, zw_900, zw_901, _, _, rfl⟩
theorem kX10_placeOf : zceeV mX10_placeOf 10 1 := ⟨⟨zw_71, zw_946, by decide +kernel, by decide⟩, zw_945, zw_46, _, _, rfl⟩
theorem kX10_toldBy : zceeV mX10_toldBy 10 2 := ⟨⟨zw_71, zw_950, by decide +kernel, by decide⟩, zw_949, zw_47, _, _, rfl⟩
theorem kX10_slack : zceeV mX10_slack 10 1 := ⟨⟨zw_71, zw_954, by decide +kernel, by decide⟩, zw_953, zw_48, _, _, rfl⟩
theorem kX10_gathered : zceeV mX10_gathered 10 1 := ⟨⟨zw_71, zw_958, by decide +kernel, by decide⟩, zw_957, zw_49, _, _, rfl⟩
theorem kX10_person : zceeV mX10_person 10 2 := ⟨⟨zw_71, zw_938, by decide +kernel, by decide⟩, zw_936, zw_937, _, _, rfl⟩
theorem kX10_plan : zceeV mX10_plan 10 1 := ⟨⟨zw_71, zw_962, by decide +kernel, by decide⟩, zw_960, zw_961, _, _, rfl⟩
theorem kX10_knows : zceeV mX10_knows 10 2 := ⟨⟨zw_71, zw_966, by decide +kernel, by decide⟩, zw_964, zw_965, _, _, rfl⟩
theorem kX10_last : zceeV mX10_last 10 1 := ⟨⟨zw_71, zw_970, by decide +kernel, by decide⟩, zw_968, zw_969, _, _, rfl⟩
theorem kX10_note : zceeV mX10_note 10 0 := ⟨⟨zw_71, zw_986, by decide +kernel, by decide⟩, zw_985, zw_52, _, _, rfl⟩
theorem kX10_below : zceeV mX10_below 10 2 := ⟨⟨zw_71, zw_982, by decide +kernel, by decide⟩, zw_981, zw_51, _, _, rfl⟩
theorem kX10_mayMove : zceeV mX10_mayMove 10 3 := ⟨⟨zw_71, zw_978, by decide +kernel, by decide⟩, zw_977, zw_50, _, _, rfl⟩
theorem kX10_moveOn : zceeV mX10_moveOn 10 3 := ⟨⟨zw_71, zw_990, by decide +kernel, by decide⟩, zw_989, zw_53, _, _, rfl⟩
theorem kX10_move : zceeV mX10_move 10 2 := ⟨⟨zw_71, zw_974, by decide +kernel, by decide⟩, zw_972, zw_973, _, _, rfl⟩
theorem kX10_isPair : zceeV mX10_isPair 10 1 := ⟨⟨zw_71, zw_998, by decide +kernel, by decide⟩, zw_997, zw_54, _, _, rfl⟩
theorem kX10_mayChange : zceeS mX10_mayChange 2 := ⟨⟨zw_71, zw_1001, by decide +kernel, by decide⟩, zw_1000⟩
theorem kX10_changeOn : zceeS mX10_changeOn 2 := ⟨⟨zw_71, zw_1004, by decide +kernel, by decide⟩, zw_1003⟩
theorem kX10_change : zceeV mX10_change 10 1 := ⟨⟨zw_71, zw_994, by decide +kernel, by decide⟩, zw_992, zw_993, _, _, rfl⟩
theorem kX10_quicken : zceeV mX10_quicken 10 0 := ⟨⟨zw_71, zw_1008, by decide +kernel, by decide⟩, zw_1006, zw_1007, _, _, rfl⟩
theorem kX10_set : zceeV mX10_set 10 3 := ⟨⟨zw_71, zw_1012, by decide +kernel, by decide⟩, zw_1010, zw_1011, _, _, rfl⟩
theorem kX10_undo : zceeV mX10_undo 10 0 := ⟨⟨zw_71, zw_1017, by decide +kernel, by decide⟩, zw_1015, zw_1016, _, _, rfl⟩
theorem kX10_layMany : zceeV mX10_layMany 10 1 := ⟨⟨zw_71, zw_1028, by decide +kernel, by decide⟩, zw_1027, zw_55, _, _, rfl⟩
theorem kX10_number : zceeV mX10_number 10 2 := ⟨⟨zw_71, zw_1021, by decide +kernel, by decide⟩, zw_1019, zw_1020, _, _, rfl⟩
theorem kX10_soon : zceeV mX10_soon 10 2 := ⟨⟨zw_71, zw_1032, by decide +kernel, by decide⟩, zw_1030, zw_1031, _, _, rfl⟩
theorem kX10_knowers : zceeV mX10_knowers 10 2 := ⟨⟨zw_71, zw_1037, by decide +kernel, by decide⟩, zw_1035, zw_1036, _, _, rfl⟩
theorem kX10_judged : zceeV mX10_judged 10 3 := ⟨⟨zw_71, zw_1051, by decide +kernel, by decide⟩, zw_1050, zw_56, _, _, rfl⟩
theorem kX10_thousands : zceeS mX10_thousands 1 := ⟨⟨zw_71, zw_1046, by decide +kernel, by decide⟩, zw_1045⟩
theorem kX10_judge : zceeV mX10_judge 10 2 := ⟨⟨zw_71, zw_1042, by decide +kernel, by decide⟩, zw_1040, zw_1041, _, _, rfl⟩
theorem kX10_see : zceeV mX10_see 10 2 := ⟨⟨zw_71, zw_1055, by decide +kernel, by decide⟩, zw_1053, zw_1054, _, _, rfl⟩
theorem kX10_unsee : zceeV mX10_unsee 10 0 := ⟨⟨zw_71, zw_1060, by decide +kernel, by decide⟩, zw_1058, zw_1059, _, _, rfl⟩
theorem kX10_which : zceeV mX10_which 10 1 := ⟨⟨zw_71, zw_1064, by decide +kernel, by decide⟩, zw_1062, zw_1063, _, _, rfl⟩
theorem kX10_lastBy : zceeV mX10_lastBy 10 1 := ⟨⟨zw_71, zw_1072, by decide +kernel, by decide⟩, zw_1071, zw_57, _, _, rfl⟩
theorem kX10_share : zceeV mX10_share 10 2 := ⟨⟨zw_71, zw_1068, by decide +kernel, by decide⟩, zw_1066, zw_1067, _, _, rfl⟩
theorem kX10_knowing : zceeV mX10_knowing 10 1 := ⟨⟨zw_71, zw_1090, by decide +kernel, by decide⟩, zw_1089, zw_58, _, _, rfl⟩
theorem kX10_chance : zceeV mX10_chance 10 3 := ⟨⟨zw_71, zw_1085, by decide +kernel, by decide⟩, zw_1083, zw_1084, _, _, rfl⟩
theorem kX10_seed : zceeV mX10_seed 10 1 := ⟨⟨zw_71, zw_1097, by decide +kernel, by decide⟩, zw_1095, zw_1096, _, _, rfl⟩
theorem kX10_drawn : zceeV mX10_drawn 10 1 := ⟨⟨zw_71, zw_1101, by decide +kernel, by decide⟩, zw_1099, zw_1100, _, _, rfl⟩
theorem kX10_keep : zceeV mX10_keep 10 1 := ⟨⟨zw_71, zw_1108, by decide +kernel, by decide⟩, zw_1106, zw_1107, _, _, rfl⟩
theorem kX10_again : zceeV mX10_again 10 1 := ⟨⟨zw_71, zw_1112, by decide +kernel, by decide⟩, zw_1110, zw_1111, _, _, rfl⟩
theorem kJ6_bitCount_0f7a4 : zceeS mJ6_bitCount_0f7a4 1 := ⟨⟨zw_73, zw_704, by decide +kernel, by decide⟩, zw_703⟩
end
section
/-! CALLS THAT MAKE NO CELL; LOOPS -/
section ZC0
variable {d : Nat} {M : zM} {mr : zK} {pc : Nat} {L : List (Option zV)} {st : List zV} {h : zH} {Q : Option zV → zH → Prop}
theorem z_cV0 {M2 : zM} {idx ci a : Nat} {fs : List zV} (n : Nat) (dd : decode M.2.1 pc = .ok (.invokevirtual idx, 3)) (hn : pc + 3 = n) (hk : zceeV M2 ci 0) (hw : Cond.methodLink M.1.cls idx M2.1 ∈ zW) (hst : zcat st ≤ 8) (hm : mr.2.2.1 ≤ mr.1 ∧ mr.2.2.2 ≤ mr.2.1) (ha : h.1 a = some (zO ci fs))
    (kk : zC d M2 0 0 (vR a :: []) h (fun v h' => Z (d + 1) M mr n L (zpush v st) h' Q)) : Z (d + 1) M mr pc L (vR a :: st) h Q := z_callV0 (mc := 0) (ms := 0) n dd hn hk hw hst hm ha kk
theorem z_cV1 {M2 : zM} {idx ci a : Nat} {fs : List zV} {x0 : zV} (n : Nat) (dd : decode M.2.1 pc = .ok (.invokevirtual idx, 3)) (hn : pc + 3 = n) (hk : zceeV M2 ci 1) (hw : Cond.methodLink M.1.cls idx M2.1 ∈ zW) (hst : zcat st ≤ 8) (hm : mr.2.2.1 ≤ mr.1 ∧ mr.2.2.2 ≤ mr.2.1) (ha : h.1 a = some (zO ci fs))
    (kk : zC d M2 0 0 (vR a :: [x0]) h (fun v h' => Z (d + 1) M mr n L (zpush v st) h' Q)) : Z (d + 1) M mr pc L (x0 :: vR a :: st) h Q := z_callV1 (mc := 0) (ms := 0) n dd hn hk hw hst hm ha kk
theorem z_cV2 {M2 : zM} {idx ci a : Nat} {fs : List zV} {x0 x1 : zV} (n : Nat) (dd : decode M.2.1 pc = .ok (.invokevirtual idx, 3)) (hn : pc + 3 = n) (hk : zceeV M2 ci 2) (hw : Cond.methodLink M.1.cls idx M2.1 ∈ zW) (hst : zcat st ≤ 8) (hm : mr.2.2.1 ≤ mr.1 ∧ mr.2.2.2 ≤ mr.2.1) (ha : h.1 a = some (zO ci fs))
    (kk : zC d M2 0 0 (vR a :: [x0, x1]) h (fun v h' => Z (d + 1) M mr n L (zpush v st) h' Q)) : Z (d + 1) M mr pc L (x1 :: x0 :: vR a :: st) h Q := z_callV2 (mc := 0) (ms := 0) n dd hn hk hw hst hm ha kk
theorem z_cV3 {M2 : zM} {idx ci a : Nat} {fs : List zV} {x0 x1 x2 : zV} (n : Nat) (dd : decode M.2.1 pc = .ok (.invokevirtual idx, 3)) (hn : pc + 3 = n) (hk : zceeV M2 ci 3) (hw : Cond.methodLink M.1.cls idx M2.1 ∈ zW) (hst : zcat st ≤ 8) (hm : mr.2.2.1 ≤ mr.1 ∧ mr.2.2.2 ≤ mr.2.1) (ha : h.1 a = some (zO ci fs))
    (kk : zC d M2 0 0 (vR a :: [x0, x1, x2]) h (fun v h' => Z (d + 1) M mr n L (zpush v st) h' Q)) : Z (d + 1) M mr pc L (x2 :: x1 :: x0 :: vR a :: st) h Q := z_callV3 (mc := 0) (ms := 0) n dd hn hk hw hst hm ha kk
theorem z_cV4 {M2 : zM} {idx ci a : Nat} {fs : List zV} {x0 x1 x2 x3 : zV} (n : Nat) (dd : decode M.2.1 pc = .ok (.invokevirtual idx, 3)) (hn : pc + 3 = n) (hk : zceeV M2 ci 4) (hw : Cond.methodLink M.1.cls idx M2.1 ∈ zW) (hst : zcat st ≤ 8) (hm : mr.2.2.1 ≤ mr.1 ∧ mr.2.2.2 ≤ mr.2.1) (ha : h.1 a = some (zO ci fs))
    (kk : zC d M2 0 0 (vR a :: [x0, x1, x2, x3]) h (fun v h' => Z (d + 1) M mr n L (zpush v st) h' Q)) : Z (d + 1) M mr pc L (x3 :: x2 :: x1 :: x0 :: vR a :: st) h Q := z_callV4 (mc := 0) (ms := 0) n dd hn hk hw hst hm ha kk
theorem z_cS1 {M2 : zM} {idx : Nat} {x0 : zV} (n : Nat) (dd : decode M.2.1 pc = .ok (.invokestatic idx, 3)) (hn : pc + 3 = n) (hk : zceeS M2 1) (hw : Cond.methodLink M.1.cls idx M2.1 ∈ zW) (hst : zcat st ≤ 8) (hm : mr.2.2.1 ≤ mr.1 ∧ mr.2.2.2 ≤ mr.2.1)
    (kk : zC d M2 0 0 ([x0]) h (fun v h' => Z (d + 1) M mr n L (zpush v st) h' Q)) : Z (d + 1) M mr pc L (x0 :: st) h Q := z_callS1 (mc := 0) (ms := 0) n dd hn hk hw hst hm kk
theorem z_cS2 {M2 : zM} {idx : Nat} {x0 x1 : zV} (n : Nat) (dd : decode M.2.1 pc = .ok (.invokestatic idx, 3)) (hn : pc + 3 = n) (hk : zceeS M2 2) (hw : Cond.methodLink M.1.cls idx M2.1 ∈ zW) (hst : zcat st ≤ 8) (hm : mr.2.2.1 ≤ mr.1 ∧ mr.2.2.2 ≤ mr.2.1)
    (kk : zC d M2 0 0 ([x0, x1]) h (fun v h' => Z (d + 1) M mr n L (zpush v st) h' Q)) : Z (d + 1) M mr pc L (x1 :: x0 :: st) h Q := z_callS2 (mc := 0) (ms := 0) n dd hn hk hw hst hm kk
theorem z_cS3 {M2 : zM} {idx : Nat} {x0 x1 x2 : zV} (n : Nat) (dd : decode M.2.1 pc = .ok (.invokestatic idx, 3)) (hn : pc + 3 = n) (hk : zceeS M2 3) (hw : Cond.methodLink M.1.cls idx M2.1 ∈ zW) (hst : zcat st ≤ 8) (hm : mr.2.2.1 ≤ mr.1 ∧ mr.2.2.2 ≤ mr.2.1)
    (kk : zC d M2 0 0 ([x0, x1, x2]) h (fun v h' => Z (d + 1) M mr n L (zpush v st) h' Q)) : Z (d + 1) M mr pc L (x2 :: x1 :: x0 :: st) h Q := z_callS3 (mc := 0) (ms := 0) n dd hn hk hw hst hm kk
theorem z_cS4 {M2 : zM} {idx : Nat} {x0 x1 x2 x3 : zV} (n : Nat) (dd : decode M.2.1 pc = .ok (.invokestatic idx, 3)) (hn : pc + 3 = n) (hk : zceeS M2 4) (hw : Cond.methodLink M.1.cls idx M2.1 ∈ zW) (hst : zcat st ≤ 8) (hm : mr.2.2.1 ≤ mr.1 ∧ mr.2.2.2 ≤ mr.2.1)
    (kk : zC d M2 0 0 ([x0, x1, x2, x3]) h (fun v h' => Z (d + 1) M mr n L (zpush v st) h' Q)) : Z (d + 1) M mr pc L (x3 :: x2 :: x1 :: x0 :: st) h Q := z_callS4 (mc := 0) (ms := 0) n dd hn hk hw hst hm kk
theorem z_cSN1 {M2 : zM} {idx : Nat} {host : String} {x0 : zV} (n : Nat) (dd : decode M.2.1 pc = .ok (.invokestatic idx, 3)) (hn : pc + 3 = n) (hk : zceeS M2 1) (hw : Cond.methodLinkNest M.1.cls idx M2.1 host ∈ lw_tbl) (hst : zcat st ≤ 8) (hm : mr.2.2.1 ≤ mr.1 ∧ mr.2.2.2 ≤ mr.2.1)
    (kk : zC d M2 0 0 ([x0]) h (fun v h' => Z (d + 1) M mr n L (zpush v st) h' Q)) : Z (d + 1) M mr pc L (x0 :: st) h Q := z_callSN1 (mc := 0) (ms := 0) n dd hn hk hw hst hm kk
theorem z_cSN2 {M2 : zM} {idx : Nat} {host : String} {x0 x1 : zV} (n : Nat) (dd : decode M.2.1 pc = .ok (.invokestatic idx, 3)) (hn : pc + 3 = n) (hk : zceeS M2 2) (hw : Cond.methodLinkNest M.1.cls idx M2.1 host ∈ lw_tbl) (hst : zcat st ≤ 8) (hm : mr.2.2.1 ≤ mr.1 ∧ mr.2.2.2 ≤ mr.2.1)
    (kk : zC d M2 0 0 ([x0, x1]) h (fun v h' => Z (d + 1) M mr n L (zpush v st) h' Q)) : Z (d + 1) M mr pc L (x1 :: x0 :: st) h Q := z_callSN2 (mc := 0) (ms := 0) n dd hn hk hw hst hm kk
theorem z_cSN3 {M2 : zM} {idx : Nat} {host : String} {x0 x1 x2 : zV} (n : Nat) (dd : decode M.2.1 pc = .ok (.invokestatic idx, 3)) (hn : pc + 3 = n) (hk : zceeS M2 3) (hw : Cond.methodLinkNest M.1.cls idx M2.1 host ∈ lw_tbl) (hst : zcat st ≤ 8) (hm : mr.2.2.1 ≤ mr.1 ∧ mr.2.2.2 ≤ mr.2.1)
    (kk : zC d M2 0 0 ([x0, x1, x2]) h (fun v h' => Z (d + 1) M mr n L (zpush v st) h' Q)) : Z (d + 1) M mr pc L (x2 :: x1 :: x0 :: st) h Q := z_callSN3 (mc := 0) (ms := 0) n dd hn hk hw hst hm kk
end ZC0
theorem z_loop {S : Nat → Prop} (N : Nat) (last : S N) (step : ∀ i, i < N → S (i + 1) → S i) : ∀ i, i ≤ N → S i := by
  intro i hi
  obtain ⟨k, hk⟩ : ∃ k, N = i + k := ⟨N - i, by omega⟩
  induction k generalizing i with
  | zero => rw [show i = N by omega]; exact last
  | succ k ih => exact step i (by omega) (ih (i + 1) (by omega) (by omega))
theorem zup_zup (h : zH) (a : Nat) (c c' : zE) : zup (zup h a c) a c' = zup h a c' := by
  unfold zup; congr 1; funext q; by_cases e : q = a <;> simp [e]
theorem zup_comm (h : zH) {a b : Nat} (c c' : zE) (e : a ≠ b) : zup (zup h a c) b c' = zup (zup h b c') a c := by
  unfold zup; congr 1; funext q
  by_cases e1 : q = a <;> by_cases e2 : q = b
  · omega
  · simp [e1, e]
  · simp [e2, Ne.symm e]
  · simp [e1, e2]
theorem zup_self (h : zH) {a : Nat} {c : zE} (e : h.1 a = some c) : zup h a c = h := by
  unfold zup
  have : (fun q => if q = a then some c else h.1 q) = h.1 := by
    funext q; by_cases e1 : q = a
    · rw [if_pos e1, e1, e]
    · rw [if_neg e1]
  rw [this]
theorem zdef_0 (r : Nat → Nat) (j : Nat) (hj : j < 3) : defaultValue (tyX0 j) = vp_V (List.map (zv r) [vN, vI 0, vI 0]) j := by
  match j, hj with
  | 0, _ => rfl
  | 1, _ => rfl
  | 2, _ => rfl
theorem zdef_1 (r : Nat → Nat) (j : Nat) (hj : j < 1) : defaultValue (tyX1 j) = vp_V (List.map (zv r) [vN]) j := by
  match j, hj with
  | 0, _ => rfl
theorem zdef_2 (r : Nat → Nat) (j : Nat) (hj : j < 3) : defaultValue (tyX2 j) = vp_V (List.map (zv r) [vN, vN, vI 0]) j := by
  match j, hj with
  | 0, _ => rfl
  | 1, _ => rfl
  | 2, _ => rfl
theorem zdef_3 (r : Nat → Nat) (j : Nat) (hj : j < 1) : defaultValue (tyX3 j) = vp_V (List.map (zv r) [vN]) j := by
  match j, hj with
  | 0, _ => rfl
theorem zdef_4 (r : Nat → Nat) (j : Nat) (hj : j < 2) : defaultValue (tyX4 j) = vp_V (List.map (zv r) [vN, vI 0]) j := by
  match j, hj with
  | 0, _ => rfl
  | 1, _ => rfl
theorem zdef_5 (r : Nat → Nat) (j : Nat) (hj : j < 2) : defaultValue (tyX5 j) = vp_V (List.map (zv r) [vN, vI 0]) j := by
  match j, hj with
  | 0, _ => rfl
  | 1, _ => rfl
theorem zdef_6 (r : Nat → Nat) (j : Nat) (hj : j < 7) : defaultValue (tyX6 j) = vp_V (List.map (zv r) [vI 0, vI 0, vI 0, vN, vN, vN, vN]) j := by
  match j, hj with
  | 0, _ => rfl
  | 1, _ => rfl
  | 2, _ => rfl
  | 3, _ => rfl
  | 4, _ => rfl
  | 5, _ => rfl
  | 6, _ => rfl
theorem zdef_7 (r : Nat → Nat) (j : Nat) (hj : j < 2) : defaultValue (tyX7 j) = vp_V (List.map (zv r) [vN, vI 0]) j := by
  match j, hj with
  | 0, _ => rfl
  | 1, _ => rfl
theorem zdef_8 (r : Nat → Nat) (j : Nat) (hj : j < 2) : defaultValue (tyX8 j) = vp_V (List.map (zv r) [vN, vN]) j := by
  match j, hj with
  | 0, _ => rfl
  | 1, _ => rfl
theorem zdef_9 (r : Nat → Nat) (j : Nat) (hj : j < 11) : defaultValue (tyX9 j) = vp_V (List.map (zv r) [vN, vN, vN, vN, vN, vN, vN, vN, vN, vN, vJ 0]) j := by
  match j, hj with
  | 0, _ => rfl
  | 1, _ => rfl
  | 2, _ => rfl
  | 3, _ => rfl
  | 4, _ => rfl
  | 5, _ => rfl
  | 6, _ => rfl
  | 7, _ => rfl
  | 8, _ => rfl
  | 9, _ => rfl
  | 10, _ => rfl
theorem zdef_10 (r : Nat → Nat) (j : Nat) (hj : j < 25) : defaultValue (tyX10 j) = vp_V (List.map (zv r) [vN, vI 0, vI 0, vN, vN, vN, vI 0, vI 0, vN, vN, vN, vN, vI 0, vJ 0, vN, vN, vN, vN, vN, vN, vI 0, vN, vI 0, vI 0, vI 0]) j := by
  have hz : j = 0 ∨ j = 1 ∨ j = 2 ∨ j = 3 ∨ j = 4 ∨ j = 5 ∨ j = 6 ∨ j = 7 ∨ j = 8 ∨ j = 9 ∨ j = 10 ∨ j = 11 ∨ j = 12 ∨ j = 13 ∨ j = 14 ∨ j = 15 ∨ j = 16 ∨ j = 17 ∨ j = 18 ∨ j = 19 ∨ j = 20 ∨ j = 21 ∨ j = 22 ∨ j = 23 ∨ j = 24 := by omega
  rcases hz with rfl | rfl | rfl | rfl | rfl | rfl | rfl | rfl | rfl | rfl | rfl | rfl | rfl | rfl | rfl | rfl | rfl | rfl | rfl | rfl | rfl | rfl | rfl | rfl | rfl <;> rfl
theorem zpl_X0 : plainName RX0 = true := by decide +kernel
theorem zpl_X1 : plainName RX1 = true := by decide +kernel
theorem zpl_X2 : plainName RX2 = true := by decide +kernel
theorem zpl_X3 : plainName RX3 = true := by decide +kernel
theorem zpl_X4 : plainName RX4 = true := by decide +kernel
theorem zpl_X5 : plainName RX5 = true := by decide +kernel
theorem zpl_X6 : plainName RX6 = true := by decide +kernel
theorem zpl_X7 : plainName RX7 = true := by decide +kernel
theorem zpl_X8 : plainName RX8 = true := by decide +kernel
theorem zpl_X9 : plainName RX9 = true := by decide +kernel
theorem zpl_X10 : plainName RX10 = true := by decide +kernel
theorem zpl_J6 : plainName RJ6 = true := by decide +kernel
end
section
/-! LateLetters.at, put; LateLetters$Telling -/
theorem zr_32 (x : Int32) : -2147483648 ≤ x.toInt ∧ x.toInt ≤ 2147483647 := ⟨Int32.le_toInt x, by have := Int32.toInt_lt x; omega⟩
theorem zr_and (x y : Int) : -2147483648 ≤ zand x y ∧ zand x y ≤ 2147483647 := zr_32 _
theorem zr_or (x y : Int) : -2147483648 ≤ zor x y ∧ zor x y ≤ 2147483647 := zr_32 _
theorem zr_shl (x y : Int) : -2147483648 ≤ zshl x y ∧ zshl x y ≤ 2147483647 := zr_32 _
abbrev zo : zK := (0, 0, 0, 0)
theorem c_X9_at {d : Nat} {h : zH} {a n : Nat} {f : Int → Int} {i : Int} {Q : Option zV → zH → Prop} (ha : h.1 a = some (zI n f)) (hn : n ≤ 1000) (hi : 0 ≤ i ∧ i < n) (hQ : Q (some (vI (f i))) h) : zC d mX9_at 0 0 [vR a, vI i] h Q := by
  refine zC.of zpl_X9 (Nat.le_of_ble_eq_true rfl) ?_
  refine z_iload_n 1 dX9_at_0 rfl rfl ?_
  refine z_if_lt 16 4 dX9_at_1 (by decide) rfl (by first | omega | exact zr_b _ | exact zr_and _ _ | exact zr_or _ _ | exact zr_shl _ _) (fun c1 => ?_) (fun c1 => ?_)
  · exfalso; omega
  · refine z_iload_n 5 dX9_at_4 rfl rfl ?_
    refine z_aload_n 6 dX9_at_5 rfl rfl ?_
    refine z_alen 7 dX9_at_6 rfl (by first | with_reducible assumption | with_reducible exact zup_same _ _ _) ?_
    refine z_icmp_ge 16 10 dX9_at_7 (by decide) rfl (by first | omega | exact zr_b _ | exact zr_and _ _ | exact zr_or _ _ | exact zr_shl _ _) (by first | omega | exact zr_b _ | exact zr_and _ _ | exact zr_or _ _ | exact zr_shl _ _) (fun c7 => ?_) (fun c7 => ?_)
    · exfalso; omega
    · refine z_aload_n 11 dX9_at_10 rfl rfl ?_
      refine z_iload_n 12 dX9_at_11 rfl rfl ?_
      refine z_iald 13 dX9_at_12 rfl (by first | with_reducible assumption | with_reducible exact zup_same _ _ _) (by omega) (by first | omega | exact zr_b _ | exact zr_and _ _ | exact zr_or _ _ | exact zr_shl _ _) ?_
      refine z_goto 17 dX9_at_13 (by decide) ?_
      refine z_ret dX9_at_17 (by first | exact True.intro | exact Or.inl rfl | exact Or.inr rfl | assumption | (show _ ∨ _; omega)) ⟨Nat.le_refl _, Nat.le_refl _⟩ ?_
      exact hQ
theorem c_X9_put {d : Nat} {h : zH} {a n : Nat} {f : Int → Int} {i x : Int} {Q : Option zV → zH → Prop} (ha : h.1 a = some (zI n f)) (hn : n ≤ 1000) (h2 : 2 ≤ a) (hi : 0 ≤ i ∧ i < n) (hQ : Q none (zup h a (zI n (zst f i x)))) : zC d mX9_put 0 0 [vR a, vI i, vI x] h Q := by
  refine zC.of zpl_X9 (Nat.le_of_ble_eq_true rfl) ?_
  refine z_iload_n 1 dX9_put_0 rfl rfl ?_
  refine z_if_lt 14 4 dX9_put_1 (by decide) rfl (by first | omega | exact zr_b _ | exact zr_and _ _ | exact zr_or _ _ | exact zr_shl _ _) (fun c1 => ?_) (fun c1 => ?_)
  · exfalso; omega
  · refine z_iload_n 5 dX9_put_4 rfl rfl ?_
    refine z_aload_n 6 dX9_put_5 rfl rfl ?_
    refine z_alen 7 dX9_put_6 rfl (by first | with_reducible assumption | with_reducible exact zup_same _ _ _) ?_
    refine z_icmp_ge 14 10 dX9_put_7 (by decide) rfl (by first | omega | exact zr_b _ | exact zr_and _ _ | exact zr_or _ _ | exact zr_shl _ _) (by first | omega | exact zr_b _ | exact zr_and _ _ | exact zr_or _ _ | exact zr_shl _ _) (fun c7 => ?_) (fun c7 => ?_)
    · exfalso; omega
    · refine z_aload_n 11 dX9_put_10 rfl rfl ?_
      refine z_iload_n 12 dX9_put_11 rfl rfl ?_
      refine z_iload_n 13 dX9_put_12 rfl rfl ?_
      refine z_iast 14 dX9_put_13 rfl (by omega) (by first | with_reducible assumption | with_reducible exact zup_same _ _ _) (by omega) (by first | omega | exact zr_b _ | exact zr_and _ _ | exact zr_or _ _ | exact zr_shl _ _) ?_
      refine z_vret dX9_put_14 (by first | exact True.intro | exact Or.inl rfl | exact Or.inr rfl | assumption | (show _ ∨ _; omega)) ⟨Nat.le_refl _, Nat.le_refl _⟩ ?_
      exact hQ
/-- a condition as a number -/
def zb (p : Prop) [Decidable p] : Int := if p then 1 else 0
theorem zb_0 {p : Prop} [Decidable p] (h : zb p = 0) : ¬ p := by unfold zb at h; split at h <;> simp_all
theorem zb_1 {p : Prop} [Decidable p] (h : zb p ≠ 0) : p := by unfold zb at h; split at h <;> simp_all
theorem zb_t {p : Prop} [Decidable p] (h : p) : zb p = 1 := if_pos h
theorem zb_f {p : Prop} [Decidable p] (h : ¬ p) : zb p = 0 := if_neg h
theorem zb_01 (p : Prop) [Decidable p] : zb p = 0 ∨ zb p = 1 := by unfold zb; split <;> simp
theorem zr_b (p : Prop) [Decidable p] : -2147483648 ≤ zb p ∧ zb p ≤ 2147483647 := by unfold zb; split <;> omega
/-- a TELLING's cells: people n, news m, standing s, delays D, gaps G, tellers E, plan P -/
def zTel (h : zH) (t : Nat) (n m s : Int) (D G E P : Int → Int) : Prop := 2 ≤ t ∧ h.1 t = some (zO 6 [vI n, vI m, vI s, vR (t + 1), vR (t + 2), vR (t + 3), vR (t + 4)]) ∧ h.1 (t + 1) = some (zI 8 D) ∧ h.1 (t + 2) = some (zI 8 G) ∧ h.1 (t + 3) = some (zI 8 E) ∧ h.1 (t + 4) = some (zI 8 P)
section TEL
variable {d : Nat} {h : zH} {Q : Option zV → zH → Prop} {t : Nat} {n m s : Int} {D G E P : Int → Int}
theorem zTel.ot (hT : zTel h t n m s D G E P) {a : Nat} {c : zE} (ha : a < t ∨ t + 4 < a) : zTel (zup h a c) t n m s D G E P := by
  obtain ⟨h0, h1, h2, h3, h4, h5⟩ := hT
  refine ⟨h0, ?_, ?_, ?_, ?_, ?_⟩ <;> (rw [zup_ne _ _ (by omega)]; assumption)
theorem zTel.fd (hT : zTel h t n m s D G E P) (n' m' s' : Int) : zTel (zup h t (zO 6 [vI n', vI m', vI s', vR (t + 1), vR (t + 2), vR (t + 3), vR (t + 4)])) t n' m' s' D G E P := by
  obtain ⟨h0, h1, h2, h3, h4, h5⟩ := hT
  refine ⟨h0, zup_same _ _ _, ?_, ?_, ?_, ?_⟩ <;> (rw [zup_ne _ _ (by omega)]; assumption)
theorem zTel.dl (hT : zTel h t n m s D G E P) (F : Int → Int) : zTel (zup h (t + 1) (zI 8 F)) t n m s F G E P := by
  obtain ⟨h0, h1, h2, h3, h4, h5⟩ := hT
  refine ⟨h0, ?_, zup_same _ _ _, ?_, ?_, ?_⟩ <;> (rw [zup_ne _ _ (by omega)]; assumption)
theorem zTel.gp (hT : zTel h t n m s D G E P) (F : Int → Int) : zTel (zup h (t + 2) (zI 8 F)) t n m s D F E P := by
  obtain ⟨h0, h1, h2, h3, h4, h5⟩ := hT
  refine ⟨h0, ?_, ?_, zup_same _ _ _, ?_, ?_⟩ <;> (rw [zup_ne _ _ (by omega)]; assumption)
theorem zTel.tl (hT : zTel h t n m s D G E P) (F : Int → Int) : zTel (zup h (t + 3) (zI 8 F)) t n m s D G F P := by
  obtain ⟨h0, h1, h2, h3, h4, h5⟩ := hT
  refine ⟨h0, ?_, ?_, ?_, zup_same _ _ _, ?_⟩ <;> (rw [zup_ne _ _ (by omega)]; assumption)
theorem zTel.pl (hT : zTel h t n m s D G E P) (F : Int → Int) : zTel (zup h (t + 4) (zI 8 F)) t n m s D G E F := by
  obtain ⟨h0, h1, h2, h3, h4, h5⟩ := hT
  refine ⟨h0, ?_, ?_, ?_, ?_, zup_same _ _ _⟩ <;> (rw [zup_ne _ _ (by omega)]; assumption)
theorem c_X6_people (hT : zTel h t n m s D G E P) (hQ : Q (some (vI n)) h) : zC d mX6_people 0 0 [vR t] h Q := by
  refine zC.of zpl_X6 (Nat.le_of_ble_eq_true rfl) ?_
  have zh0 := hT.2.1
  refine z_aload_n 1 dX6_people_0 rfl rfl ?_
  refine z_getf (ci := 6) 4 dX6_people_1 rfl rfl zin_6 0 (by decide) zw_88 (by first | with_reducible assumption | with_reducible exact zup_same _ _ _) rfl ?_
  refine z_ret dX6_people_4 (by first | exact True.intro | exact Or.inl rfl | exact Or.inr rfl | assumption | (show _ ∨ _; omega)) ⟨Nat.le_refl _, Nat.le_refl _⟩ ?_
  exact hQ
theorem c_X6_news (hT : zTel h t n m s D G E P) (hQ : Q (some (vI m)) h) : zC d mX6_news 0 0 [vR t] h Q := by
  refine zC.of zpl_X6 (Nat.le_of_ble_eq_true rfl) ?_
  have zh0 := hT.2.1
  refine z_aload_n 1 dX6_news_0 rfl rfl ?_
  refine z_getf (ci := 6) 4 dX6_news_1 rfl rfl zin_6 1 (by decide) zw_89 (by first | with_reducible assumption | with_reducible exact zup_same _ _ _) rfl ?_
  refine z_ret dX6_news_4 (by first | exact True.intro | exact Or.inl rfl | exact Or.inr rfl | assumption | (show _ ∨ _; omega)) ⟨Nat.le_refl _, Nat.le_refl _⟩ ?_
  exact hQ
theorem c_X6_standing (hT : zTel h t n m s D G E P) (hQ : Q (some (vI s)) h) : zC d mX6_standing 0 0 [vR t] h Q := by
  refine zC.of zpl_X6 (Nat.le_of_ble_eq_true rfl) ?_
  have zh0 := hT.2.1
  refine z_aload_n 1 dX6_standing_0 rfl rfl ?_
  refine z_getf (ci := 6) 4 dX6_standing_1 rfl rfl zin_6 2 (by decide) zw_90 (by first | with_reducible assumption | with_reducible exact zup_same _ _ _) rfl ?_
  refine z_ret dX6_standing_4 (by first | exact True.intro | exact Or.inl rfl | exact Or.inr rfl | assumption | (show _ ∨ _; omega)) ⟨Nat.le_refl _, Nat.le_refl _⟩ ?_
  exact hQ
theorem c_X6_hasPerson {p : Int} (hT : zTel h t n m s D G E P) (hp : -2147483648 ≤ p ∧ p ≤ 2147483647) (hn : 0 ≤ n ∧ n ≤ 8) (hQ : Q (some (vI (zb (0 ≤ p ∧ p < n)))) h) : zC d mX6_hasPerson 0 0 [vR t, vI p] h Q := by
  refine zC.of zpl_X6 (Nat.le_of_ble_eq_true rfl) ?_
  have zh0 := hT.2.1
  refine z_iload_n 1 dX6_hasPerson_0 rfl rfl ?_
  refine z_if_lt 16 4 dX6_hasPerson_1 (by decide) rfl (by first | omega | exact zr_b _ | exact zr_and _ _ | exact zr_or _ _ | exact zr_shl _ _) (fun c1 => ?_) (fun c1 => ?_)
  · refine z_iconst 17 dX6_hasPerson_16 rfl ?_
    refine z_ret dX6_hasPerson_17 (by first | exact True.intro | exact Or.inl rfl | exact Or.inr rfl | assumption | (show _ ∨ _; omega)) ⟨Nat.le_refl _, Nat.le_refl _⟩ ?_
    first | (rw [zb_t (by omega)] at hQ; exact hQ) | (rw [zb_f (by omega)] at hQ; exact hQ)
  · refine z_iload_n 5 dX6_hasPerson_4 rfl rfl ?_
    refine z_aload_n 6 dX6_hasPerson_5 rfl rfl ?_
    refine z_getf (ci := 6) 9 dX6_hasPerson_6 rfl rfl zin_6 0 (by decide) zw_88 (by first | with_reducible assumption | with_reducible exact zup_same _ _ _) rfl ?_
    refine z_icmp_ge 16 12 dX6_hasPerson_9 (by decide) rfl (by first | omega | exact zr_b _ | exact zr_and _ _ | exact zr_or _ _ | exact zr_shl _ _) (by first | omega | exact zr_b _ | exact zr_and _ _ | exact zr_or _ _ | exact zr_shl _ _) (fun c9 => ?_) (fun c9 => ?_)
    · refine z_iconst 17 dX6_hasPerson_16 rfl ?_
      refine z_ret dX6_hasPerson_17 (by first | exact True.intro | exact Or.inl rfl | exact Or.inr rfl | assumption | (show _ ∨ _; omega)) ⟨Nat.le_refl _, Nat.le_refl _⟩ ?_
      first | (rw [zb_t (by omega)] at hQ; exact hQ) | (rw [zb_f (by omega)] at hQ; exact hQ)
    · refine z_iconst 13 dX6_hasPerson_12 rfl ?_
      refine z_goto 17 dX6_hasPerson_13 (by decide) ?_
      refine z_ret dX6_hasPerson_17 (by first | exact True.intro | exact Or.inl rfl | exact Or.inr rfl | assumption | (show _ ∨ _; omega)) ⟨Nat.le_refl _, Nat.le_refl _⟩ ?_
      first | (rw [zb_t (by omega)] at hQ; exact hQ) | (rw [zb_f (by omega)] at hQ; exact hQ)
theorem c_X6_hasNews {p : Int} (hT : zTel h t n m s D G E P) (hp : -2147483648 ≤ p ∧ p ≤ 2147483647) (hn : 0 ≤ m ∧ m ≤ 8) (hQ : Q (some (vI (zb (0 ≤ p ∧ p < m)))) h) : zC d mX6_hasNews 0 0 [vR t, vI p] h Q := by
  refine zC.of zpl_X6 (Nat.le_of_ble_eq_true rfl) ?_
  have zh0 := hT.2.1
  refine z_iload_n 1 dX6_hasNews_0 rfl rfl ?_
  refine z_if_lt 16 4 dX6_hasNews_1 (by decide) rfl (by first | omega | exact zr_b _ | exact zr_and _ _ | exact zr_or _ _ | exact zr_shl _ _) (fun c1 => ?_) (fun c1 => ?_)
  · refine z_iconst 17 dX6_hasNews_16 rfl ?_
    refine z_ret dX6_hasNews_17 (by first | exact True.intro | exact Or.inl rfl | exact Or.inr rfl | assumption | (show _ ∨ _; omega)) ⟨Nat.le_refl _, Nat.le_refl _⟩ ?_
    first | (rw [zb_t (by omega)] at hQ; exact hQ) | (rw [zb_f (by omega)] at hQ; exact hQ)
  · refine z_iload_n 5 dX6_hasNews_4 rfl rfl ?_
    refine z_aload_n 6 dX6_hasNews_5 rfl rfl ?_
    refine z_getf (ci := 6) 9 dX6_hasNews_6 rfl rfl zin_6 1 (by decide) zw_89 (by first | with_reducible assumption | with_reducible exact zup_same _ _ _) rfl ?_
    refine z_icmp_ge 16 12 dX6_hasNews_9 (by decide) rfl (by first | omega | exact zr_b _ | exact zr_and _ _ | exact zr_or _ _ | exact zr_shl _ _) (by first | omega | exact zr_b _ | exact zr_and _ _ | exact zr_or _ _ | exact zr_shl _ _) (fun c9 => ?_) (fun c9 => ?_)
    · refine z_iconst 17 dX6_hasNews_16 rfl ?_
      refine z_ret dX6_hasNews_17 (by first | exact True.intro | exact Or.inl rfl | exact Or.inr rfl | assumption | (show _ ∨ _; omega)) ⟨Nat.le_refl _, Nat.le_refl _⟩ ?_
      first | (rw [zb_t (by omega)] at hQ; exact hQ) | (rw [zb_f (by omega)] at hQ; exact hQ)
    · refine z_iconst 13 dX6_hasNews_12 rfl ?_
      refine z_goto 17 dX6_hasNews_13 (by decide) ?_
      refine z_ret dX6_hasNews_17 (by first | exact True.intro | exact Or.inl rfl | exact Or.inr rfl | assumption | (show _ ∨ _; omega)) ⟨Nat.le_refl _, Nat.le_refl _⟩ ?_
      first | (rw [zb_t (by omega)] at hQ; exact hQ) | (rw [zb_f (by omega)] at hQ; exact hQ)
theorem c_X6_hasPlace {p : Int} (hT : zTel h t n m s D G E P) (hp : -2147483648 ≤ p ∧ p ≤ 2147483647) (hn : 0 ≤ s ∧ s ≤ 8) (hQ : Q (some (vI (zb (0 ≤ p ∧ p < s)))) h) : zC d mX6_hasPlace 0 0 [vR t, vI p] h Q := by
  refine zC.of zpl_X6 (Nat.le_of_ble_eq_true rfl) ?_
  have zh0 := hT.2.1
  refine z_iload_n 1 dX6_hasPlace_0 rfl rfl ?_
  refine z_if_lt 16 4 dX6_hasPlace_1 (by decide) rfl (by first | omega | exact zr_b _ | exact zr_and _ _ | exact zr_or _ _ | exact zr_shl _ _) (fun c1 => ?_) (fun c1 => ?_)
  · refine z_iconst 17 dX6_hasPlace_16 rfl ?_
    refine z_ret dX6_hasPlace_17 (by first | exact True.intro | exact Or.inl rfl | exact Or.inr rfl | assumption | (show _ ∨ _; omega)) ⟨Nat.le_refl _, Nat.le_refl _⟩ ?_
    first | (rw [zb_t (by omega)] at hQ; exact hQ) | (rw [zb_f (by omega)] at hQ; exact hQ)
  · refine z_iload_n 5 dX6_hasPlace_4 rfl rfl ?_
    refine z_aload_n 6 dX6_hasPlace_5 rfl rfl ?_
    refine z_getf (ci := 6) 9 dX6_hasPlace_6 rfl rfl zin_6 2 (by decide) zw_90 (by first | with_reducible assumption | with_reducible exact zup_same _ _ _) rfl ?_
    refine z_icmp_ge 16 12 dX6_hasPlace_9 (by decide) rfl (by first | omega | exact zr_b _ | exact zr_and _ _ | exact zr_or _ _ | exact zr_shl _ _) (by first | omega | exact zr_b _ | exact zr_and _ _ | exact zr_or _ _ | exact zr_shl _ _) (fun c9 => ?_) (fun c9 => ?_)
    · refine z_iconst 17 dX6_hasPlace_16 rfl ?_
      refine z_ret dX6_hasPlace_17 (by first | exact True.intro | exact Or.inl rfl | exact Or.inr rfl | assumption | (show _ ∨ _; omega)) ⟨Nat.le_refl _, Nat.le_refl _⟩ ?_
      first | (rw [zb_t (by omega)] at hQ; exact hQ) | (rw [zb_f (by omega)] at hQ; exact hQ)
    · refine z_iconst 13 dX6_hasPlace_12 rfl ?_
      refine z_goto 17 dX6_hasPlace_13 (by decide) ?_
      refine z_ret dX6_hasPlace_17 (by first | exact True.intro | exact Or.inl rfl | exact Or.inr rfl | assumption | (show _ ∨ _; omega)) ⟨Nat.le_refl _, Nat.le_refl _⟩ ?_
      first | (rw [zb_t (by omega)] at hQ; exact hQ) | (rw [zb_f (by omega)] at hQ; exact hQ)
theorem c_X6_delayOf {p : Int} (hT : zTel h t n m s D G E P) (hp : 0 ≤ p ∧ p < 8) (hQ : Q (some (vI (D p))) h) : zC (d + 1) mX6_delayOf 0 0 [vR t, vI p] h Q := by
  refine zC.of zpl_X6 (Nat.le_of_ble_eq_true rfl) ?_
  have zh0 := hT.2.1
  refine z_aload_n 1 dX6_delayOf_0 rfl rfl ?_
  refine z_getf (ci := 6) 4 dX6_delayOf_1 rfl rfl zin_6 3 (by decide) zw_91 (by first | with_reducible assumption | with_reducible exact zup_same _ _ _) rfl ?_
  refine z_iload_n 5 dX6_delayOf_4 rfl rfl ?_
  refine z_cSN2 8 dX6_delayOf_5 rfl kX9_at zn_374 (Nat.le_of_ble_eq_true rfl) ⟨Nat.le_refl _, Nat.le_refl _⟩ ?_
  refine c_X9_at hT.2.2.1 (by decide) (by omega) ?_
  refine z_ret dX6_delayOf_8 (by first | exact True.intro | exact Or.inl rfl | exact Or.inr rfl | assumption | (show _ ∨ _; omega)) ⟨Nat.le_refl _, Nat.le_refl _⟩ ?_
  exact hQ
theorem c_X6_gapOf {p : Int} (hT : zTel h t n m s D G E P) (hp : 0 ≤ p ∧ p < 8) (hQ : Q (some (vI (G p))) h) : zC (d + 1) mX6_gapOf 0 0 [vR t, vI p] h Q := by
  refine zC.of zpl_X6 (Nat.le_of_ble_eq_true rfl) ?_
  have zh0 := hT.2.1
  refine z_aload_n 1 dX6_gapOf_0 rfl rfl ?_
  refine z_getf (ci := 6) 4 dX6_gapOf_1 rfl rfl zin_6 4 (by decide) zw_92 (by first | with_reducible assumption | with_reducible exact zup_same _ _ _) rfl ?_
  refine z_iload_n 5 dX6_gapOf_4 rfl rfl ?_
  refine z_cSN2 8 dX6_gapOf_5 rfl kX9_at zn_374 (Nat.le_of_ble_eq_true rfl) ⟨Nat.le_refl _, Nat.le_refl _⟩ ?_
  refine c_X9_at hT.2.2.2.1 (by decide) (by omega) ?_
  refine z_ret dX6_gapOf_8 (by first | exact True.intro | exact Or.inl rfl | exact Or.inr rfl | assumption | (show _ ∨ _; omega)) ⟨Nat.le_refl _, Nat.le_refl _⟩ ?_
  exact hQ
theorem c_X6_tellerOf {p : Int} (hT : zTel h t n m s D G E P) (hp : 0 ≤ p ∧ p < 8) (hQ : Q (some (vI (E p))) h) : zC (d + 1) mX6_tellerOf 0 0 [vR t, vI p] h Q := by
  refine zC.of zpl_X6 (Nat.le_of_ble_eq_true rfl) ?_
  have zh0 := hT.2.1
  refine z_aload_n 1 dX6_tellerOf_0 rfl rfl ?_
  refine z_getf (ci := 6) 4 dX6_tellerOf_1 rfl rfl zin_6 5 (by decide) zw_93 (by first | with_reducible assumption | with_reducible exact zup_same _ _ _) rfl ?_
  refine z_iload_n 5 dX6_tellerOf_4 rfl rfl ?_
  refine z_cSN2 8 dX6_tellerOf_5 rfl kX9_at zn_374 (Nat.le_of_ble_eq_true rfl) ⟨Nat.le_refl _, Nat.le_refl _⟩ ?_
  refine c_X9_at hT.2.2.2.2.1 (by decide) (by omega) ?_
  refine z_ret dX6_tellerOf_8 (by first | exact True.intro | exact Or.inl rfl | exact Or.inr rfl | assumption | (show _ ∨ _; omega)) ⟨Nat.le_refl _, Nat.le_refl _⟩ ?_
  exact hQ
theorem c_X6_personAt {p : Int} (hT : zTel h t n m s D G E P) (hp : 0 ≤ p ∧ p < 8) (hQ : Q (some (vI (P p))) h) : zC (d + 1) mX6_personAt 0 0 [vR t, vI p] h Q := by
  refine zC.of zpl_X6 (Nat.le_of_ble_eq_true rfl) ?_
  have zh0 := hT.2.1
  refine z_aload_n 1 dX6_personAt_0 rfl rfl ?_
  refine z_getf (ci := 6) 4 dX6_personAt_1 rfl rfl zin_6 6 (by decide) zw_94 (by first | with_reducible assumption | with_reducible exact zup_same _ _ _) rfl ?_
  refine z_iload_n 5 dX6_personAt_4 rfl rfl ?_
  refine z_cSN2 8 dX6_personAt_5 rfl kX9_at zn_374 (Nat.le_of_ble_eq_true rfl) ⟨Nat.le_refl _, Nat.le_refl _⟩ ?_
  refine c_X9_at hT.2.2.2.2.2 (by decide) (by omega) ?_
  refine z_ret dX6_personAt_8 (by first | exact True.intro | exact Or.inl rfl | exact Or.inr rfl | assumption | (show _ ∨ _; omega)) ⟨Nat.le_refl _, Nat.le_refl _⟩ ?_
  exact hQ
theorem c_X6_setDelay {p v : Int} (hT : zTel h t n m s D G E P) (hp : 0 ≤ p ∧ p < 8) (hQ : Q none (zup h (t + 1) (zI 8 (zst D p v)))) : zC (d + 1) mX6_setDelay 0 0 [vR t, vI p, vI v] h Q := by
  have h2 := hT.1
  refine zC.of zpl_X6 (Nat.le_of_ble_eq_true rfl) ?_
  have zh0 := hT.2.1
  refine z_aload_n 1 dX6_setDelay_0 rfl rfl ?_
  refine z_getf (ci := 6) 4 dX6_setDelay_1 rfl rfl zin_6 3 (by decide) zw_91 (by first | with_reducible assumption | with_reducible exact zup_same _ _ _) rfl ?_
  refine z_iload_n 5 dX6_setDelay_4 rfl rfl ?_
  refine z_iload_n 6 dX6_setDelay_5 rfl rfl ?_
  refine z_cSN3 9 dX6_setDelay_6 rfl kX9_put zn_340 (Nat.le_of_ble_eq_true rfl) ⟨Nat.le_refl _, Nat.le_refl _⟩ ?_
  refine c_X9_put hT.2.2.1 (by decide) (by omega) (by omega) ?_
  refine z_vret dX6_setDelay_9 (by first | exact True.intro | exact Or.inl rfl | exact Or.inr rfl | assumption | (show _ ∨ _; omega)) ⟨Nat.le_refl _, Nat.le_refl _⟩ ?_
  exact hQ
theorem c_X6_setGap {p v : Int} (hT : zTel h t n m s D G E P) (hp : 0 ≤ p ∧ p < 8) (hQ : Q none (zup h (t + 2) (zI 8 (zst G p v)))) : zC (d + 1) mX6_setGap 0 0 [vR t, vI p, vI v] h Q := by
  have h2 := hT.1
  refine zC.of zpl_X6 (Nat.le_of_ble_eq_true rfl) ?_
  have zh0 := hT.2.1
  refine z_aload_n 1 dX6_setGap_0 rfl rfl ?_
  refine z_getf (ci := 6) 4 dX6_setGap_1 rfl rfl zin_6 4 (by decide) zw_92 (by first | with_reducible assumption | with_reducible exact zup_same _ _ _) rfl ?_
  refine z_iload_n 5 dX6_setGap_4 rfl rfl ?_
  refine z_iload_n 6 dX6_setGap_5 rfl rfl ?_
  refine z_cSN3 9 dX6_setGap_6 rfl kX9_put zn_340 (Nat.le_of_ble_eq_true rfl) ⟨Nat.le_refl _, Nat.le_refl _⟩ ?_
  refine c_X9_put hT.2.2.2.1 (by decide) (by omega) (by omega) ?_
  refine z_vret dX6_setGap_9 (by first | exact True.intro | exact Or.inl rfl | exact Or.inr rfl | assumption | (show _ ∨ _; omega)) ⟨Nat.le_refl _, Nat.le_refl _⟩ ?_
  exact hQ
theorem c_X6_startWith {p v : Int} (hT : zTel h t n m s D G E P) (hQ : Q none (zup h t (zO 6 [vI p, vI v, vI 0, vR (t + 1), vR (t + 2), vR (t + 3), vR (t + 4)]))) : zC d mX6_startWith 0 0 [vR t, vI p, vI v] h Q := by
  have h2 := hT.1
  refine zC.of zpl_X6 (Nat.le_of_ble_eq_true rfl) ?_
  have zh0 := hT.2.1
  refine z_aload_n 1 dX6_startWith_0 rfl rfl ?_
  refine z_iload_n 2 dX6_startWith_1 rfl rfl ?_
  refine z_putf (ci := 6) 5 dX6_startWith_2 rfl rfl zin_6 tyX6_ok nmX6 0 (by decide) zw_88 rfl (fun _ => ⟨rfl, rfl⟩) (by omega) (by first | with_reducible assumption | with_reducible exact zup_same _ _ _) (Nat.le_of_ble_eq_true rfl) ?_
  refine z_aload_n 6 dX6_startWith_5 rfl rfl ?_
  refine z_iload_n 7 dX6_startWith_6 rfl rfl ?_
  refine z_putf (ci := 6) 10 dX6_startWith_7 rfl rfl zin_6 tyX6_ok nmX6 1 (by decide) zw_89 rfl (fun _ => ⟨rfl, rfl⟩) (by omega) (by first | with_reducible assumption | with_reducible exact zup_same _ _ _) (Nat.le_of_ble_eq_true rfl) ?_
  refine z_aload_n 11 dX6_startWith_10 rfl rfl ?_
  refine z_iconst 12 dX6_startWith_11 rfl ?_
  refine z_putf (ci := 6) 15 dX6_startWith_12 rfl rfl zin_6 tyX6_ok nmX6 2 (by decide) zw_90 rfl (fun _ => ⟨rfl, rfl⟩) (by omega) (by first | with_reducible assumption | with_reducible exact zup_same _ _ _) (Nat.le_of_ble_eq_true rfl) ?_
  refine z_vret dX6_startWith_15 (by first | exact True.intro | exact Or.inl rfl | exact Or.inr rfl | assumption | (show _ ∨ _; omega)) ⟨Nat.le_refl _, Nat.le_refl _⟩ ?_
  simp only [zup_zup]; exact hQ
theorem c_X6_emptyPlan (hT : zTel h t n m s D G E P) (hQ : Q none (zup h t (zO 6 [vI n, vI m, vI 0, vR (t + 1), vR (t + 2), vR (t + 3), vR (t + 4)]))) : zC d mX6_emptyPlan 0 0 [vR t] h Q := by
  have h2 := hT.1
  refine zC.of zpl_X6 (Nat.le_of_ble_eq_true rfl) ?_
  have zh0 := hT.2.1
  refine z_aload_n 1 dX6_emptyPlan_0 rfl rfl ?_
  refine z_iconst 2 dX6_emptyPlan_1 rfl ?_
  refine z_putf (ci := 6) 5 dX6_emptyPlan_2 rfl rfl zin_6 tyX6_ok nmX6 2 (by decide) zw_90 rfl (fun _ => ⟨rfl, rfl⟩) (by omega) (by first | with_reducible assumption | with_reducible exact zup_same _ _ _) (Nat.le_of_ble_eq_true rfl) ?_
  refine z_vret dX6_emptyPlan_5 (by first | exact True.intro | exact Or.inl rfl | exact Or.inr rfl | assumption | (show _ ∨ _; omega)) ⟨Nat.le_refl _, Nat.le_refl _⟩ ?_
  exact hQ
/-- THE PLAN grows: what the cells are then -/
theorem c_X6_putLast {p e : Int} (hT : zTel h t n m s D G E P) (hs : 0 ≤ s ∧ s < 8) (hp : 0 ≤ p ∧ p < 8) (hQ : Q none (zup (zup (zup h (t + 4) (zI 8 (zst P s p))) (t + 3) (zI 8 (zst E p e))) t (zO 6 [vI n, vI m, vI (s + 1), vR (t + 1), vR (t + 2), vR (t + 3), vR (t + 4)]))) : zC (d + 1) mX6_putLast 0 0 [vR t, vI p, vI e] h Q := by
  have h2 := hT.1
  refine zC.of zpl_X6 (Nat.le_of_ble_eq_true rfl) ?_
  have zh0 := hT.2.1
  refine z_aload_n 1 dX6_putLast_0 rfl rfl ?_
  refine z_getf (ci := 6) 4 dX6_putLast_1 rfl rfl zin_6 6 (by decide) zw_94 (by first | with_reducible assumption | with_reducible exact zup_same _ _ _) rfl ?_
  refine z_aload_n 5 dX6_putLast_4 rfl rfl ?_
  refine z_getf (ci := 6) 8 dX6_putLast_5 rfl rfl zin_6 2 (by decide) zw_90 (by first | with_reducible assumption | with_reducible exact zup_same _ _ _) rfl ?_
  refine z_iload_n 9 dX6_putLast_8 rfl rfl ?_
  refine z_cSN3 12 dX6_putLast_9 rfl kX9_put zn_340 (Nat.le_of_ble_eq_true rfl) ⟨Nat.le_refl _, Nat.le_refl _⟩ ?_
  refine c_X9_put hT.2.2.2.2.2 (by decide) (by omega) (by omega) ?_
  have hT := hT.pl (zst P s p)
  have zh0 := hT.2.1
  refine z_aload_n 13 dX6_putLast_12 rfl rfl ?_
  refine z_getf (ci := 6) 16 dX6_putLast_13 rfl rfl zin_6 5 (by decide) zw_93 (by first | with_reducible assumption | with_reducible exact zup_same _ _ _) rfl ?_
  refine z_iload_n 17 dX6_putLast_16 rfl rfl ?_
  refine z_iload_n 18 dX6_putLast_17 rfl rfl ?_
  refine z_cSN3 21 dX6_putLast_18 rfl kX9_put zn_340 (Nat.le_of_ble_eq_true rfl) ⟨Nat.le_refl _, Nat.le_refl _⟩ ?_
  refine c_X9_put hT.2.2.2.2.1 (by decide) (by omega) (by omega) ?_
  have hT := hT.tl (zst E p e)
  have zh0 := hT.2.1
  refine z_aload_n 22 dX6_putLast_21 rfl rfl ?_
  refine z_dup_a 23 dX6_putLast_22 rfl ?_
  refine z_getf (ci := 6) 26 dX6_putLast_23 rfl rfl zin_6 2 (by decide) zw_90 (by first | with_reducible assumption | with_reducible exact zup_same _ _ _) rfl ?_
  refine z_iconst 27 dX6_putLast_26 rfl ?_
  refine z_iadd 28 dX6_putLast_27 rfl ?_
  refine z_putf (ci := 6) 31 dX6_putLast_28 rfl rfl zin_6 tyX6_ok nmX6 2 (by decide) zw_90 rfl (fun _ => ⟨rfl, rfl⟩) (by omega) (by first | with_reducible assumption | with_reducible exact zup_same _ _ _) (Nat.le_of_ble_eq_true rfl) ?_
  refine z_vret dX6_putLast_31 (by first | exact True.intro | exact Or.inl rfl | exact Or.inr rfl | assumption | (show _ ∨ _; omega)) ⟨Nat.le_refl _, Nat.le_refl _⟩ ?_
  exact hQ
end TEL
end
section
/-! LateLetters$Telling: loops -/
def zcnt (E P : Int → Int) (x : Int) : Nat → Int
  | 0 => 0
  | i + 1 => zcnt E P x i + zb (E (P i) = x)
theorem zcnt_t {E P : Int → Int} {x : Int} {i : Nat} (h : E (P i) = x) : zcnt E P x (i + 1) = zcnt E P x i + 1 := by simp [zcnt, zb_t h]
theorem zcnt_f {E P : Int → Int} {x : Int} {i : Nat} (h : E (P i) ≠ x) : zcnt E P x (i + 1) = zcnt E P x i := by simp [zcnt, zb_f h]
/-- a person and all that it tells, as bits -/
def zbrn (E P : Int → Int) (p : Int) : Nat → Int
  | 0 => zshl 1 p
  | i + 1 => if zand (zshr (zbrn E P p i) (E (P i))) 1 = 0 then zbrn E P p i else zor (zbrn E P p i) (zshl 1 (P i))
/-- the one at a goes behind all -/
def zrot (P : Int → Int) (a s : Int) : Int → Int := fun j => if a ≤ j ∧ j < s - 1 then P (j + 1) else if j = s - 1 then P a else P j
def zshf (P : Int → Int) (a i : Int) : Int → Int := fun j => if a ≤ j ∧ j < i then P (j + 1) else P j
theorem zshf_0 (P : Int → Int) (a : Int) : zshf P a a = P := by funext j; unfold zshf; rw [if_neg (by omega)]
theorem zshf_s (P : Int → Int) {a i : Int} (h : a ≤ i) : zst (zshf P a i) i (zshf P a i (i + 1)) = zshf P a (i + 1) := by
  funext j
  unfold zst zshf
  by_cases e : j = i
  · subst e; rw [if_pos rfl, if_neg (by omega), if_pos (by omega)]
  · rw [if_neg e]
    by_cases e2 : a ≤ j ∧ j < i
    · rw [if_pos e2, if_pos (by omega)]
    · rw [if_neg e2, if_neg (by omega)]
theorem zshf_e (P : Int → Int) {a s : Int} (h : a ≤ s - 1) : zst (zshf P a (s - 1)) (s - 1) (P a) = zrot P a s := by
  funext j
  unfold zst zshf zrot
  by_cases e : j = s - 1
  · subst e; rw [if_pos rfl, if_neg (by omega), if_pos rfl]
  · rw [if_neg e]
    by_cases e2 : a ≤ j ∧ j < s - 1
    · rw [if_pos e2, if_pos e2]
    · rw [if_neg e2, if_neg e2, if_neg e]
/-- the walk along THE PLAN that sends a set behind all others: the place looked at, THE PLAN -/
def zgv (b s : Int) (P : Int → Int) : Nat → Int × (Int → Int)
  | 0 => (0, P)
  | k + 1 => if zand (zshr b ((zgv b s P k).2 (zgv b s P k).1)) 1 = 0 then ((zgv b s P k).1 + 1, (zgv b s P k).2) else ((zgv b s P k).1, zrot (zgv b s P k).2 (zgv b s P k).1 s)
theorem zgv_le (b s : Int) (P : Int → Int) : ∀ k : Nat, 0 ≤ (zgv b s P k).1 ∧ (zgv b s P k).1 ≤ k
  | 0 => by simp [zgv]
  | k + 1 => by
    have := zgv_le b s P k
    unfold zgv
    split
    · simp; omega
    · simp; omega
/-- only cells lo .. hi have changed -/
def zMod (lo hi : Nat) (h h' : zH) : Prop := (∀ a, a < lo ∨ hi < a → h'.1 a = h.1 a) ∧ h'.2 = h.2
theorem zMod.rf (lo hi : Nat) (h : zH) : zMod lo hi h h := ⟨fun _ _ => rfl, rfl⟩
theorem zMod.tr {lo hi : Nat} {h h' h'' : zH} (a : zMod lo hi h h') (b : zMod lo hi h' h'') : zMod lo hi h h'' := ⟨fun q hq => (b.1 q hq).trans (a.1 q hq), b.2.trans a.2⟩
theorem zMod.up {lo hi : Nat} {h h' : zH} (m : zMod lo hi h h') {a : Nat} (c : zE) (ha : lo ≤ a ∧ a ≤ hi) : zMod lo hi h (zup h' a c) := ⟨fun q hq => (zup_ne _ _ (by omega)).trans (m.1 q hq), m.2⟩
theorem zMod.wd {lo hi lo' hi' : Nat} {h h' : zH} (m : zMod lo hi h h') (ha : lo' ≤ lo ∧ hi ≤ hi') : zMod lo' hi' h h' := ⟨fun q hq => m.1 q (by omega), m.2⟩
section TEL2
variable {d : Nat} {h : zH} {Q : Option zV → zH → Prop} {t : Nat} {n m s : Int} {D G E P : Int → Int}
theorem zTel.mod {lo hi : Nat} {h' : zH} (hT : zTel h t n m s D G E P) (hm : zMod lo hi h h') (ha : t + 4 < lo ∨ hi < t) : zTel h' t n m s D G E P := by
  obtain ⟨h0, h1, h2, h3, h4, h5⟩ := hT
  refine ⟨h0, ?_, ?_, ?_, ?_, ?_⟩ <;> (rw [hm.1 _ (by omega)]; assumption)
theorem c_X6_countToldBy {N : Nat} {x : Int} (hT : zTel h t n m N D G E P) (hN : N ≤ 7) (hx : -2147483648 ≤ x ∧ x ≤ 2147483647) (hv : ∀ i : Nat, i < N → 0 ≤ P i ∧ P i < 8 ∧ 0 ≤ E (P i) ∧ E (P i) < 8) (hQ : Q (some (vI (zcnt E P x N))) h) : zC (d + 2) mX6_countToldBy 0 0 [vR t, vI x] h Q := by
  have zh0 := hT.2.1
  have key : ∀ i : Nat, i ≤ N → Z (d + 2) mX6_countToldBy zo 4 [some (vR t), some (vI x), some (vI (zcnt E P x i)), some (vI i)] [] h Q := by
    refine z_loop N ?_ ?_
    · refine z_iload_n 5 dX6_countToldBy_4 rfl rfl ?_
      refine z_aload_n 6 dX6_countToldBy_5 rfl rfl ?_
      refine z_getf (ci := 6) 9 dX6_countToldBy_6 rfl rfl zin_6 2 (by decide) zw_90 (by first | with_reducible assumption | with_reducible exact zup_same _ _ _) rfl ?_
      refine z_icmp_ge 34 12 dX6_countToldBy_9 (by decide) rfl (by first | omega | exact zr_b _ | exact zr_and _ _ | exact zr_or _ _ | exact zr_shl _ _) (by first | omega | exact zr_b _ | exact zr_and _ _ | exact zr_or _ _ | exact zr_shl _ _) (fun c9 => ?_) (fun c9 => ?_)
      · refine z_iload_n 35 dX6_countToldBy_34 rfl rfl ?_
        refine z_ret dX6_countToldBy_35 (by first | exact True.intro | exact Or.inl rfl | exact Or.inr rfl | assumption | (show _ ∨ _; omega)) ⟨Nat.le_refl _, Nat.le_refl _⟩ ?_
        exact hQ
      · exfalso; omega
    · intro i hi ih
      have hvi := hv i hi
      refine z_iload_n 5 dX6_countToldBy_4 rfl rfl ?_
      refine z_aload_n 6 dX6_countToldBy_5 rfl rfl ?_
      refine z_getf (ci := 6) 9 dX6_countToldBy_6 rfl rfl zin_6 2 (by decide) zw_90 (by first | with_reducible assumption | with_reducible exact zup_same _ _ _) rfl ?_
      refine z_icmp_ge 34 12 dX6_countToldBy_9 (by decide) rfl (by first | omega | exact zr_b _ | exact zr_and _ _ | exact zr_or _ _ | exact zr_shl _ _) (by first | omega | exact zr_b _ | exact zr_and _ _ | exact zr_or _ _ | exact zr_shl _ _) (fun c9 => ?_) (fun c9 => ?_)
      · exfalso; omega
      · refine z_aload_n 13 dX6_countToldBy_12 rfl rfl ?_
        refine z_aload_n 14 dX6_countToldBy_13 rfl rfl ?_
        refine z_iload_n 15 dX6_countToldBy_14 rfl rfl ?_
        refine z_cV1 18 dX6_countToldBy_15 rfl kX6_personAt zw_493 (Nat.le_of_ble_eq_true rfl) ⟨Nat.le_refl _, Nat.le_refl _⟩ (by first | with_reducible assumption | with_reducible exact zup_same _ _ _) ?_
        refine c_X6_personAt hT (by omega) ?_
        refine z_cV1 21 dX6_countToldBy_18 rfl kX6_tellerOf zw_498 (Nat.le_of_ble_eq_true rfl) ⟨Nat.le_refl _, Nat.le_refl _⟩ (by first | with_reducible assumption | with_reducible exact zup_same _ _ _) ?_
        refine c_X6_tellerOf hT (by omega) ?_
        refine z_iload_n 22 dX6_countToldBy_21 rfl rfl ?_
        refine z_icmp_ne 28 25 dX6_countToldBy_22 (by decide) rfl (by first | omega | exact zr_b _ | exact zr_and _ _ | exact zr_or _ _ | exact zr_shl _ _) (by first | omega | exact zr_b _ | exact zr_and _ _ | exact zr_or _ _ | exact zr_shl _ _) (fun c22 => ?_) (fun c22 => ?_)
        · rw [zcnt_f c22] at ih
          refine z_iinc 31 dX6_countToldBy_28 rfl (by decide) rfl ?_
          refine z_goto 4 dX6_countToldBy_31 (by decide) ?_
          exact ih
        · rw [zcnt_t c22] at ih
          refine z_iinc 28 dX6_countToldBy_25 rfl (by decide) rfl ?_
          refine z_iinc 31 dX6_countToldBy_28 rfl (by decide) rfl ?_
          refine z_goto 4 dX6_countToldBy_31 (by decide) ?_
          exact ih
  refine zC.of zpl_X6 (Nat.le_of_ble_eq_true rfl) ?_
  refine z_iconst 1 dX6_countToldBy_0 rfl ?_
  refine z_istore_n 2 dX6_countToldBy_1 rfl (by decide) ?_
  refine z_iconst 3 dX6_countToldBy_2 rfl ?_
  refine z_istore_n 4 dX6_countToldBy_3 rfl (by decide) ?_
  exact key 0 (Nat.zero_le _)
theorem c_X6_placeOf {N k : Nat} {x : Int} (hT : zTel h t n m N D G E P) (hN : N ≤ 7) (hx : -2147483648 ≤ x ∧ x ≤ 2147483647) (hv : ∀ i : Nat, i < N → 0 ≤ P i ∧ P i < 8 ∧ 0 ≤ E (P i) ∧ E (P i) < 8) (hk : k < N) (hk1 : P k = x) (hk2 : ∀ i : Nat, i < k → P i ≠ x) (hQ : Q (some (vI k)) h) : zC (d + 2) mX6_placeOf 0 0 [vR t, vI x] h Q := by
  have zh0 := hT.2.1
  have key : ∀ i : Nat, i ≤ k → Z (d + 2) mX6_placeOf zo 2 [some (vR t), some (vI x), some (vI i)] [] h Q := by
    refine z_loop k ?_ ?_
    · have hvi := hv k hk
      refine z_iload_n 3 dX6_placeOf_2 rfl rfl ?_
      refine z_aload_n 4 dX6_placeOf_3 rfl rfl ?_
      refine z_getf (ci := 6) 7 dX6_placeOf_4 rfl rfl zin_6 2 (by decide) zw_90 (by first | with_reducible assumption | with_reducible exact zup_same _ _ _) rfl ?_
      refine z_icmp_ge 27 10 dX6_placeOf_7 (by decide) rfl (by first | omega | exact zr_b _ | exact zr_and _ _ | exact zr_or _ _ | exact zr_shl _ _) (by first | omega | exact zr_b _ | exact zr_and _ _ | exact zr_or _ _ | exact zr_shl _ _) (fun c7 => ?_) (fun c7 => ?_)
      · exfalso; omega
      · refine z_aload_n 11 dX6_placeOf_10 rfl rfl ?_
        refine z_iload_n 12 dX6_placeOf_11 rfl rfl ?_
        refine z_cV1 15 dX6_placeOf_12 rfl kX6_personAt zw_493 (Nat.le_of_ble_eq_true rfl) ⟨Nat.le_refl _, Nat.le_refl _⟩ (by first | with_reducible assumption | with_reducible exact zup_same _ _ _) ?_
        refine c_X6_personAt hT (by omega) ?_
        refine z_iload_n 16 dX6_placeOf_15 rfl rfl ?_
        refine z_icmp_ne 21 19 dX6_placeOf_16 (by decide) rfl (by first | omega | exact zr_b _ | exact zr_and _ _ | exact zr_or _ _ | exact zr_shl _ _) (by first | omega | exact zr_b _ | exact zr_and _ _ | exact zr_or _ _ | exact zr_shl _ _) (fun c16 => ?_) (fun c16 => ?_)
        · exact absurd hk1 c16
        · refine z_iload_n 20 dX6_placeOf_19 rfl rfl ?_
          refine z_ret dX6_placeOf_20 (by first | exact True.intro | exact Or.inl rfl | exact Or.inr rfl | assumption | (show _ ∨ _; omega)) ⟨Nat.le_refl _, Nat.le_refl _⟩ ?_
          exact hQ
    · intro i hi ih
      have hvi := hv i (by omega)
      refine z_iload_n 3 dX6_placeOf_2 rfl rfl ?_
      refine z_aload_n 4 dX6_placeOf_3 rfl rfl ?_
      refine z_getf (ci := 6) 7 dX6_placeOf_4 rfl rfl zin_6 2 (by decide) zw_90 (by first | with_reducible assumption | with_reducible exact zup_same _ _ _) rfl ?_
      refine z_icmp_ge 27 10 dX6_placeOf_7 (by decide) rfl (by first | omega | exact zr_b _ | exact zr_and _ _ | exact zr_or _ _ | exact zr_shl _ _) (by first | omega | exact zr_b _ | exact zr_and _ _ | exact zr_or _ _ | exact zr_shl _ _) (fun c7 => ?_) (fun c7 => ?_)
      · exfalso; omega
      · refine z_aload_n 11 dX6_placeOf_10 rfl rfl ?_
        refine z_iload_n 12 dX6_placeOf_11 rfl rfl ?_
        refine z_cV1 15 dX6_placeOf_12 rfl kX6_personAt zw_493 (Nat.le_of_ble_eq_true rfl) ⟨Nat.le_refl _, Nat.le_refl _⟩ (by first | with_reducible assumption | with_reducible exact zup_same _ _ _) ?_
        refine c_X6_personAt hT (by omega) ?_
        refine z_iload_n 16 dX6_placeOf_15 rfl rfl ?_
        refine z_icmp_ne 21 19 dX6_placeOf_16 (by decide) rfl (by first | omega | exact zr_b _ | exact zr_and _ _ | exact zr_or _ _ | exact zr_shl _ _) (by first | omega | exact zr_b _ | exact zr_and _ _ | exact zr_or _ _ | exact zr_shl _ _) (fun c16 => ?_) (fun c16 => ?_)
        · refine z_iinc 24 dX6_placeOf_21 rfl (by decide) rfl ?_
          refine z_goto 2 dX6_placeOf_24 (by decide) ?_
          exact ih
        · exact absurd c16 (hk2 i hi)
  refine zC.of zpl_X6 (Nat.le_of_ble_eq_true rfl) ?_
  refine z_iconst 1 dX6_placeOf_0 rfl ?_
  refine z_istore_n 2 dX6_placeOf_1 rfl (by decide) ?_
  exact key 0 (Nat.zero_le _)
theorem c_X6_placeOf_none {N : Nat} {x : Int} (hT : zTel h t n m N D G E P) (hN : N ≤ 7) (hx : -2147483648 ≤ x ∧ x ≤ 2147483647) (hv : ∀ i : Nat, i < N → 0 ≤ P i ∧ P i < 8 ∧ 0 ≤ E (P i) ∧ E (P i) < 8) (hk2 : ∀ i : Nat, i < N → P i ≠ x) (hQ : Q (some (vI (-9))) h) : zC (d + 2) mX6_placeOf 0 0 [vR t, vI x] h Q := by
  have zh0 := hT.2.1
  have key : ∀ i : Nat, i ≤ N → Z (d + 2) mX6_placeOf zo 2 [some (vR t), some (vI x), some (vI i)] [] h Q := by
    refine z_loop N ?_ ?_
    · refine z_iload_n 3 dX6_placeOf_2 rfl rfl ?_
      refine z_aload_n 4 dX6_placeOf_3 rfl rfl ?_
      refine z_getf (ci := 6) 7 dX6_placeOf_4 rfl rfl zin_6 2 (by decide) zw_90 (by first | with_reducible assumption | with_reducible exact zup_same _ _ _) rfl ?_
      refine z_icmp_ge 27 10 dX6_placeOf_7 (by decide) rfl (by first | omega | exact zr_b _ | exact zr_and _ _ | exact zr_or _ _ | exact zr_shl _ _) (by first | omega | exact zr_b _ | exact zr_and _ _ | exact zr_or _ _ | exact zr_shl _ _) (fun c7 => ?_) (fun c7 => ?_)
      · refine z_bipush 29 dX6_placeOf_27 rfl (by decide) ?_
        refine z_ret dX6_placeOf_29 (by first | exact True.intro | exact Or.inl rfl | exact Or.inr rfl | assumption | (show _ ∨ _; omega)) ⟨Nat.le_refl _, Nat.le_refl _⟩ ?_
        exact hQ
      · exfalso; omega
    · intro i hi ih
      have hvi := hv i (by omega)
      refine z_iload_n 3 dX6_placeOf_2 rfl rfl ?_
      refine z_aload_n 4 dX6_placeOf_3 rfl rfl ?_
      refine z_getf (ci := 6) 7 dX6_placeOf_4 rfl rfl zin_6 2 (by decide) zw_90 (by first | with_reducible assumption | with_reducible exact zup_same _ _ _) rfl ?_
      refine z_icmp_ge 27 10 dX6_placeOf_7 (by decide) rfl (by first | omega | exact zr_b _ | exact zr_and _ _ | exact zr_or _ _ | exact zr_shl _ _) (by first | omega | exact zr_b _ | exact zr_and _ _ | exact zr_or _ _ | exact zr_shl _ _) (fun c7 => ?_) (fun c7 => ?_)
      · exfalso; omega
      · refine z_aload_n 11 dX6_placeOf_10 rfl rfl ?_
        refine z_iload_n 12 dX6_placeOf_11 rfl rfl ?_
        refine z_cV1 15 dX6_placeOf_12 rfl kX6_personAt zw_493 (Nat.le_of_ble_eq_true rfl) ⟨Nat.le_refl _, Nat.le_refl _⟩ (by first | with_reducible assumption | with_reducible exact zup_same _ _ _) ?_
        refine c_X6_personAt hT (by omega) ?_
        refine z_iload_n 16 dX6_placeOf_15 rfl rfl ?_
        refine z_icmp_ne 21 19 dX6_placeOf_16 (by decide) rfl (by first | omega | exact zr_b _ | exact zr_and _ _ | exact zr_or _ _ | exact zr_shl _ _) (by first | omega | exact zr_b _ | exact zr_and _ _ | exact zr_or _ _ | exact zr_shl _ _) (fun c16 => ?_) (fun c16 => ?_)
        · refine z_iinc 24 dX6_placeOf_21 rfl (by decide) rfl ?_
          refine z_goto 2 dX6_placeOf_24 (by decide) ?_
          exact ih
        · exact absurd c16 (hk2 i hi)
  refine zC.of zpl_X6 (Nat.le_of_ble_eq_true rfl) ?_
  refine z_iconst 1 dX6_placeOf_0 rfl ?_
  refine z_istore_n 2 dX6_placeOf_1 rfl (by decide) ?_
  exact key 0 (Nat.zero_le _)
theorem c_X6_branchOf {N : Nat} {p : Int} (hT : zTel h t n m N D G E P) (hN : N ≤ 7) (hv : ∀ i : Nat, i < N → 0 ≤ P i ∧ P i < 8 ∧ 0 ≤ E (P i) ∧ E (P i) < 8) (hQ : Q (some (vI (zbrn E P p N))) h) : zC (d + 2) mX6_branchOf 0 0 [vR t, vI p] h Q := by
  have zh0 := hT.2.1
  have key : ∀ i : Nat, i ≤ N → ∀ w : Option zV, Z (d + 2) mX6_branchOf zo 6 [some (vR t), some (vI p), some (vI (zbrn E P p i)), some (vI i), w] [] h Q := by
    refine z_loop N ?_ ?_
    · intro w
      refine z_iload_n 7 dX6_branchOf_6 rfl rfl ?_
      refine z_aload_n 8 dX6_branchOf_7 rfl rfl ?_
      refine z_getf (ci := 6) 11 dX6_branchOf_8 rfl rfl zin_6 2 (by decide) zw_90 (by first | with_reducible assumption | with_reducible exact zup_same _ _ _) rfl ?_
      refine z_icmp_ge 47 14 dX6_branchOf_11 (by decide) rfl (by first | omega | exact zr_b _ | exact zr_and _ _ | exact zr_or _ _ | exact zr_shl _ _) (by first | omega | exact zr_b _ | exact zr_and _ _ | exact zr_or _ _ | exact zr_shl _ _) (fun c11 => ?_) (fun c11 => ?_)
      · refine z_iload_n 48 dX6_branchOf_47 rfl rfl ?_
        refine z_ret dX6_branchOf_48 (by first | exact True.intro | exact Or.inl rfl | exact Or.inr rfl | assumption | (show _ ∨ _; omega)) ⟨Nat.le_refl _, Nat.le_refl _⟩ ?_
        exact hQ
      · exfalso; omega
    · intro i hi ih w
      have hvi := hv i hi
      refine z_iload_n 7 dX6_branchOf_6 rfl rfl ?_
      refine z_aload_n 8 dX6_branchOf_7 rfl rfl ?_
      refine z_getf (ci := 6) 11 dX6_branchOf_8 rfl rfl zin_6 2 (by decide) zw_90 (by first | with_reducible assumption | with_reducible exact zup_same _ _ _) rfl ?_
      refine z_icmp_ge 47 14 dX6_branchOf_11 (by decide) rfl (by first | omega | exact zr_b _ | exact zr_and _ _ | exact zr_or _ _ | exact zr_shl _ _) (by first | omega | exact zr_b _ | exact zr_and _ _ | exact zr_or _ _ | exact zr_shl _ _) (fun c11 => ?_) (fun c11 => ?_)
      · exfalso; omega
      · refine z_aload_n 15 dX6_branchOf_14 rfl rfl ?_
        refine z_iload_n 16 dX6_branchOf_15 rfl rfl ?_
        refine z_cV1 19 dX6_branchOf_16 rfl kX6_personAt zw_493 (Nat.le_of_ble_eq_true rfl) ⟨Nat.le_refl _, Nat.le_refl _⟩ (by first | with_reducible assumption | with_reducible exact zup_same _ _ _) ?_
        refine c_X6_personAt hT (by omega) ?_
        refine z_istore 21 dX6_branchOf_19 rfl (by decide) ?_
        refine z_iload_n 22 dX6_branchOf_21 rfl rfl ?_
        refine z_aload_n 23 dX6_branchOf_22 rfl rfl ?_
        refine z_iload 25 dX6_branchOf_23 rfl rfl ?_
        refine z_cV1 28 dX6_branchOf_25 rfl kX6_tellerOf zw_498 (Nat.le_of_ble_eq_true rfl) ⟨Nat.le_refl _, Nat.le_refl _⟩ (by first | with_reducible assumption | with_reducible exact zup_same _ _ _) ?_
        refine c_X6_tellerOf hT (by omega) ?_
        refine z_ishr 29 dX6_branchOf_28 rfl ?_
        refine z_iconst 30 dX6_branchOf_29 rfl ?_
        refine z_iand 31 dX6_branchOf_30 rfl ?_
        refine z_if_eq 41 34 dX6_branchOf_31 (by decide) rfl (by first | omega | exact zr_b _ | exact zr_and _ _ | exact zr_or _ _ | exact zr_shl _ _) (fun c31 => ?_) (fun c31 => ?_)
        · try replace c31 := zb_0 c31
          rw [show zbrn E P p (i + 1) = zbrn E P p i from if_pos c31] at ih
          refine z_iinc 44 dX6_branchOf_41 rfl (by decide) rfl ?_
          refine z_goto 6 dX6_branchOf_44 (by decide) ?_
          exact ih _
        · try replace c31 := zb_1 c31
          rw [show zbrn E P p (i + 1) = zor (zbrn E P p i) (zshl 1 (P i)) from if_neg c31] at ih
          refine z_iload_n 35 dX6_branchOf_34 rfl rfl ?_
          refine z_iconst 36 dX6_branchOf_35 rfl ?_
          refine z_iload 38 dX6_branchOf_36 rfl rfl ?_
          refine z_ishl 39 dX6_branchOf_38 rfl ?_
          refine z_ior 40 dX6_branchOf_39 rfl ?_
          refine z_istore_n 41 dX6_branchOf_40 rfl (by decide) ?_
          refine z_iinc 44 dX6_branchOf_41 rfl (by decide) rfl ?_
          refine z_goto 6 dX6_branchOf_44 (by decide) ?_
          exact ih _
  refine zC.of zpl_X6 (Nat.le_of_ble_eq_true rfl) ?_
  refine z_iconst 1 dX6_branchOf_0 rfl ?_
  refine z_iload_n 2 dX6_branchOf_1 rfl rfl ?_
  refine z_ishl 3 dX6_branchOf_2 rfl ?_
  refine z_istore_n 4 dX6_branchOf_3 rfl (by decide) ?_
  refine z_iconst 5 dX6_branchOf_4 rfl ?_
  refine z_istore_n 6 dX6_branchOf_5 rfl (by decide) ?_
  exact key 0 (Nat.zero_le _) _
theorem c_X6_exchange {i : Int} (hT : zTel h t n m s D G E P) (hi : 0 ≤ i ∧ i < 7) (hQ : Q none (zup h (t + 4) (zI 8 (zst (zst P i (P (i + 1))) (i + 1) (P i))))) : zC (d + 2) mX6_exchange 0 0 [vR t, vI i] h Q := by
  have h2 := hT.1
  refine zC.of zpl_X6 (Nat.le_of_ble_eq_true rfl) ?_
  have zh0 := hT.2.1
  refine z_aload_n 1 dX6_exchange_0 rfl rfl ?_
  refine z_iload_n 2 dX6_exchange_1 rfl rfl ?_
  refine z_cV1 5 dX6_exchange_2 rfl kX6_personAt zw_493 (Nat.le_of_ble_eq_true rfl) ⟨Nat.le_refl _, Nat.le_refl _⟩ (by first | with_reducible assumption | with_reducible exact zup_same _ _ _) ?_
  refine c_X6_personAt hT (by omega) ?_
  refine z_istore_n 6 dX6_exchange_5 rfl (by decide) ?_
  refine z_aload_n 7 dX6_exchange_6 rfl rfl ?_
  refine z_getf (ci := 6) 10 dX6_exchange_7 rfl rfl zin_6 6 (by decide) zw_94 (by first | with_reducible assumption | with_reducible exact zup_same _ _ _) rfl ?_
  refine z_iload_n 11 dX6_exchange_10 rfl rfl ?_
  refine z_aload_n 12 dX6_exchange_11 rfl rfl ?_
  refine z_iload_n 13 dX6_exchange_12 rfl rfl ?_
  refine z_iconst 14 dX6_exchange_13 rfl ?_
  refine z_iadd 15 dX6_exchange_14 rfl ?_
  refine z_cV1 18 dX6_exchange_15 rfl kX6_personAt zw_493 (Nat.le_of_ble_eq_true rfl) ⟨Nat.le_refl _, Nat.le_refl _⟩ (by first | with_reducible assumption | with_reducible exact zup_same _ _ _) ?_
  refine c_X6_personAt hT (by omega) ?_
  refine z_cSN3 21 dX6_exchange_18 rfl kX9_put zn_340 (Nat.le_of_ble_eq_true rfl) ⟨Nat.le_refl _, Nat.le_refl _⟩ ?_
  refine c_X9_put hT.2.2.2.2.2 (by decide) (by omega) (by omega) ?_
  have hT := hT.pl (zst P i (P (i + 1)))
  have zh0 := hT.2.1
  refine z_aload_n 22 dX6_exchange_21 rfl rfl ?_
  refine z_getf (ci := 6) 25 dX6_exchange_22 rfl rfl zin_6 6 (by decide) zw_94 (by first | with_reducible assumption | with_reducible exact zup_same _ _ _) rfl ?_
  refine z_iload_n 26 dX6_exchange_25 rfl rfl ?_
  refine z_iconst 27 dX6_exchange_26 rfl ?_
  refine z_iadd 28 dX6_exchange_27 rfl ?_
  refine z_iload_n 29 dX6_exchange_28 rfl rfl ?_
  refine z_cSN3 32 dX6_exchange_29 rfl kX9_put zn_340 (Nat.le_of_ble_eq_true rfl) ⟨Nat.le_refl _, Nat.le_refl _⟩ ?_
  refine c_X9_put hT.2.2.2.2.2 (by decide) (by omega) (by omega) ?_
  rw [zup_zup]
  refine z_vret dX6_exchange_32 (by first | exact True.intro | exact Or.inl rfl | exact Or.inr rfl | assumption | (show _ ∨ _; omega)) ⟨Nat.le_refl _, Nat.le_refl _⟩ ?_
  exact hQ
theorem c_X6_tellAnew0 {p v : Int} (hT : zTel h t n m s D G E P) (hp : 0 ≤ p ∧ p < 8) (hQ : Q (some (vI (D p))) (zup h (t + 1) (zI 8 (zst D p v)))) : zC (d + 2) mX6_tellAnew 0 0 [vR t, vI p, vI 0, vI v] h Q := by
  have zh0 := hT.2.1
  refine zC.of zpl_X6 (Nat.le_of_ble_eq_true rfl) ?_
  refine z_iload_n 1 dX6_tellAnew_0 rfl rfl ?_
  refine z_if_ne 20 4 dX6_tellAnew_1 (by decide) rfl (by first | omega | exact zr_b _ | exact zr_and _ _ | exact zr_or _ _ | exact zr_shl _ _) (fun c1 => ?_) (fun c1 => ?_)
  · exact absurd rfl c1
  · try replace c1 := zb_0 c1
    refine z_aload_n 5 dX6_tellAnew_4 rfl rfl ?_
    refine z_iload_n 6 dX6_tellAnew_5 rfl rfl ?_
    refine z_cV1 9 dX6_tellAnew_6 rfl kX6_delayOf zw_590 (Nat.le_of_ble_eq_true rfl) ⟨Nat.le_refl _, Nat.le_refl _⟩ (by first | with_reducible assumption | with_reducible exact zup_same _ _ _) ?_
    refine c_X6_delayOf hT (by omega) ?_
    refine z_istore 11 dX6_tellAnew_9 rfl (by decide) ?_
    refine z_aload_n 12 dX6_tellAnew_11 rfl rfl ?_
    refine z_iload_n 13 dX6_tellAnew_12 rfl rfl ?_
    refine z_iload_n 14 dX6_tellAnew_13 rfl rfl ?_
    refine z_cV2 17 dX6_tellAnew_14 rfl kX6_setDelay zw_591 (Nat.le_of_ble_eq_true rfl) ⟨Nat.le_refl _, Nat.le_refl _⟩ (by first | with_reducible assumption | with_reducible exact zup_same _ _ _) ?_
    refine c_X6_setDelay hT (by omega) ?_
    refine z_goto 52 dX6_tellAnew_17 (by decide) ?_
    refine z_iload 54 dX6_tellAnew_52 rfl rfl ?_
    refine z_ret dX6_tellAnew_54 (by first | exact True.intro | exact Or.inl rfl | exact Or.inr rfl | assumption | (show _ ∨ _; omega)) ⟨Nat.le_refl _, Nat.le_refl _⟩ ?_
    exact hQ
theorem c_X6_tellAnew1 {p v : Int} (hT : zTel h t n m s D G E P) (hp : 0 ≤ p ∧ p < 8) (hQ : Q (some (vI (G p))) (zup h (t + 2) (zI 8 (zst G p v)))) : zC (d + 2) mX6_tellAnew 0 0 [vR t, vI p, vI 1, vI v] h Q := by
  have zh0 := hT.2.1
  refine zC.of zpl_X6 (Nat.le_of_ble_eq_true rfl) ?_
  refine z_iload_n 1 dX6_tellAnew_0 rfl rfl ?_
  refine z_if_ne 20 4 dX6_tellAnew_1 (by decide) rfl (by first | omega | exact zr_b _ | exact zr_and _ _ | exact zr_or _ _ | exact zr_shl _ _) (fun c1 => ?_) (fun c1 => ?_)
  · try replace c1 := zb_1 c1
    refine z_iload_n 21 dX6_tellAnew_20 rfl rfl ?_
    refine z_iconst 22 dX6_tellAnew_21 rfl ?_
    refine z_icmp_ne 41 25 dX6_tellAnew_22 (by decide) rfl (by first | omega | exact zr_b _ | exact zr_and _ _ | exact zr_or _ _ | exact zr_shl _ _) (by first | omega | exact zr_b _ | exact zr_and _ _ | exact zr_or _ _ | exact zr_shl _ _) (fun c22 => ?_) (fun c22 => ?_)
    · exact absurd rfl c22
    · refine z_aload_n 26 dX6_tellAnew_25 rfl rfl ?_
      refine z_iload_n 27 dX6_tellAnew_26 rfl rfl ?_
      refine z_cV1 30 dX6_tellAnew_27 rfl kX6_gapOf zw_592 (Nat.le_of_ble_eq_true rfl) ⟨Nat.le_refl _, Nat.le_refl _⟩ (by first | with_reducible assumption | with_reducible exact zup_same _ _ _) ?_
      refine c_X6_gapOf hT (by omega) ?_
      refine z_istore 32 dX6_tellAnew_30 rfl (by decide) ?_
      refine z_aload_n 33 dX6_tellAnew_32 rfl rfl ?_
      refine z_iload_n 34 dX6_tellAnew_33 rfl rfl ?_
      refine z_iload_n 35 dX6_tellAnew_34 rfl rfl ?_
      refine z_cV2 38 dX6_tellAnew_35 rfl kX6_setGap zw_593 (Nat.le_of_ble_eq_true rfl) ⟨Nat.le_refl _, Nat.le_refl _⟩ (by first | with_reducible assumption | with_reducible exact zup_same _ _ _) ?_
      refine c_X6_setGap hT (by omega) ?_
      refine z_goto 52 dX6_tellAnew_38 (by decide) ?_
      refine z_iload 54 dX6_tellAnew_52 rfl rfl ?_
      refine z_ret dX6_tellAnew_54 (by first | exact True.intro | exact Or.inl rfl | exact Or.inr rfl | assumption | (show _ ∨ _; omega)) ⟨Nat.le_refl _, Nat.le_refl _⟩ ?_
      exact hQ
  · exfalso; omega
theorem c_X6_tellAnew2 {p v : Int} (hT : zTel h t n m s D G E P) (hQ : Q (some (vI m)) (zup h t (zO 6 [vI n, vI v, vI s, vR (t + 1), vR (t + 2), vR (t + 3), vR (t + 4)]))) : zC (d + 2) mX6_tellAnew 0 0 [vR t, vI p, vI 2, vI v] h Q := by
  have zh0 := hT.2.1
  have h2 := hT.1
  refine zC.of zpl_X6 (Nat.le_of_ble_eq_true rfl) ?_
  refine z_iload_n 1 dX6_tellAnew_0 rfl rfl ?_
  refine z_if_ne 20 4 dX6_tellAnew_1 (by decide) rfl (by first | omega | exact zr_b _ | exact zr_and _ _ | exact zr_or _ _ | exact zr_shl _ _) (fun c1 => ?_) (fun c1 => ?_)
  · try replace c1 := zb_1 c1
    refine z_iload_n 21 dX6_tellAnew_20 rfl rfl ?_
    refine z_iconst 22 dX6_tellAnew_21 rfl ?_
    refine z_icmp_ne 41 25 dX6_tellAnew_22 (by decide) rfl (by first | omega | exact zr_b _ | exact zr_and _ _ | exact zr_or _ _ | exact zr_shl _ _) (by first | omega | exact zr_b _ | exact zr_and _ _ | exact zr_or _ _ | exact zr_shl _ _) (fun c22 => ?_) (fun c22 => ?_)
    · refine z_aload_n 42 dX6_tellAnew_41 rfl rfl ?_
      refine z_getf (ci := 6) 45 dX6_tellAnew_42 rfl rfl zin_6 1 (by decide) zw_89 (by first | with_reducible assumption | with_reducible exact zup_same _ _ _) rfl ?_
      refine z_istore 47 dX6_tellAnew_45 rfl (by decide) ?_
      refine z_aload_n 48 dX6_tellAnew_47 rfl rfl ?_
      refine z_iload_n 49 dX6_tellAnew_48 rfl rfl ?_
      refine z_putf (ci := 6) 52 dX6_tellAnew_49 rfl rfl zin_6 tyX6_ok nmX6 1 (by decide) zw_89 rfl (fun _ => ⟨rfl, rfl⟩) (by omega) (by first | with_reducible assumption | with_reducible exact zup_same _ _ _) (Nat.le_of_ble_eq_true rfl) ?_
      refine z_iload 54 dX6_tellAnew_52 rfl rfl ?_
      refine z_ret dX6_tellAnew_54 (by first | exact True.intro | exact Or.inl rfl | exact Or.inr rfl | assumption | (show _ ∨ _; omega)) ⟨Nat.le_refl _, Nat.le_refl _⟩ ?_
      exact hQ
    · exfalso; omega
  · exfalso; omega
theorem c_X6_sendBehindAll {N : Nat} {a : Int} (hT : zTel h t n m N D G E P) (hN : N ≤ 7) (ha : 0 ≤ a ∧ a < N) (hQ : Q none (zup h (t + 4) (zI 8 (zrot P a N)))) : zC (d + 2) mX6_sendBehindAll 0 0 [vR t, vI a] h Q := by
  have h2 := hT.1
  obtain ⟨a0, rfl⟩ : ∃ a0 : Nat, a = (a0 : Int) := ⟨a.toNat, by omega⟩
  have key : ∀ i : Nat, i ≤ N - 1 → a0 ≤ i → Z (d + 2) mX6_sendBehindAll zo 8 [some (vR t), some (vI a0), some (vI (P a0)), some (vI i)] [] (zup h (t + 4) (zI 8 (zshf P a0 i))) Q := by
    refine z_loop (N - 1) ?_ ?_
    · intro hai
      have hT := hT.pl (zshf P a0 ((N - 1 : Nat) : Int))
      have zh0 := hT.2.1
      have e1 : ((N - 1 : Nat) : Int) = N - 1 := by omega
      refine z_iload_n 9 dX6_sendBehindAll_8 rfl rfl ?_
      refine z_aload_n 10 dX6_sendBehindAll_9 rfl rfl ?_
      refine z_getf (ci := 6) 13 dX6_sendBehindAll_10 rfl rfl zin_6 2 (by decide) zw_90 (by first | with_reducible assumption | with_reducible exact zup_same _ _ _) rfl ?_
      refine z_iconst 14 dX6_sendBehindAll_13 rfl ?_
      refine z_isub 15 dX6_sendBehindAll_14 rfl ?_
      refine z_icmp_ge 39 18 dX6_sendBehindAll_15 (by decide) rfl (by first | omega | exact zr_b _ | exact zr_and _ _ | exact zr_or _ _ | exact zr_shl _ _) (by first | omega | exact zr_b _ | exact zr_and _ _ | exact zr_or _ _ | exact zr_shl _ _) (fun c15 => ?_) (fun c15 => ?_)
      · refine z_aload_n 40 dX6_sendBehindAll_39 rfl rfl ?_
        refine z_getf (ci := 6) 43 dX6_sendBehindAll_40 rfl rfl zin_6 6 (by decide) zw_94 (by first | with_reducible assumption | with_reducible exact zup_same _ _ _) rfl ?_
        refine z_aload_n 44 dX6_sendBehindAll_43 rfl rfl ?_
        refine z_getf (ci := 6) 47 dX6_sendBehindAll_44 rfl rfl zin_6 2 (by decide) zw_90 (by first | with_reducible assumption | with_reducible exact zup_same _ _ _) rfl ?_
        refine z_iconst 48 dX6_sendBehindAll_47 rfl ?_
        refine z_isub 49 dX6_sendBehindAll_48 rfl ?_
        refine z_iload_n 50 dX6_sendBehindAll_49 rfl rfl ?_
        refine z_cSN3 53 dX6_sendBehindAll_50 rfl kX9_put zn_340 (Nat.le_of_ble_eq_true rfl) ⟨Nat.le_refl _, Nat.le_refl _⟩ ?_
        refine c_X9_put hT.2.2.2.2.2 (by decide) (by omega) (by omega) ?_
        rw [zup_zup, e1, zshf_e P (by omega)]
        refine z_vret dX6_sendBehindAll_53 (by first | exact True.intro | exact Or.inl rfl | exact Or.inr rfl | assumption | (show _ ∨ _; omega)) ⟨Nat.le_refl _, Nat.le_refl _⟩ ?_
        exact hQ
      · exfalso; omega
    · intro i hi ih hai
      have hT := hT.pl (zshf P a0 i)
      have zh0 := hT.2.1
      refine z_iload_n 9 dX6_sendBehindAll_8 rfl rfl ?_
      refine z_aload_n 10 dX6_sendBehindAll_9 rfl rfl ?_
      refine z_getf (ci := 6) 13 dX6_sendBehindAll_10 rfl rfl zin_6 2 (by decide) zw_90 (by first | with_reducible assumption | with_reducible exact zup_same _ _ _) rfl ?_
      refine z_iconst 14 dX6_sendBehindAll_13 rfl ?_
      refine z_isub 15 dX6_sendBehindAll_14 rfl ?_
      refine z_icmp_ge 39 18 dX6_sendBehindAll_15 (by decide) rfl (by first | omega | exact zr_b _ | exact zr_and _ _ | exact zr_or _ _ | exact zr_shl _ _) (by first | omega | exact zr_b _ | exact zr_and _ _ | exact zr_or _ _ | exact zr_shl _ _) (fun c15 => ?_) (fun c15 => ?_)
      · exfalso; omega
      · refine z_aload_n 19 dX6_sendBehindAll_18 rfl rfl ?_
        refine z_getf (ci := 6) 22 dX6_sendBehindAll_19 rfl rfl zin_6 6 (by decide) zw_94 (by first | with_reducible assumption | with_reducible exact zup_same _ _ _) rfl ?_
        refine z_iload_n 23 dX6_sendBehindAll_22 rfl rfl ?_
        refine z_aload_n 24 dX6_sendBehindAll_23 rfl rfl ?_
        refine z_iload_n 25 dX6_sendBehindAll_24 rfl rfl ?_
        refine z_iconst 26 dX6_sendBehindAll_25 rfl ?_
        refine z_iadd 27 dX6_sendBehindAll_26 rfl ?_
        refine z_cV1 30 dX6_sendBehindAll_27 rfl kX6_personAt zw_493 (Nat.le_of_ble_eq_true rfl) ⟨Nat.le_refl _, Nat.le_refl _⟩ (by first | with_reducible assumption | with_reducible exact zup_same _ _ _) ?_
        refine c_X6_personAt hT (by omega) ?_
        refine z_cSN3 33 dX6_sendBehindAll_30 rfl kX9_put zn_340 (Nat.le_of_ble_eq_true rfl) ⟨Nat.le_refl _, Nat.le_refl _⟩ ?_
        refine c_X9_put hT.2.2.2.2.2 (by decide) (by omega) (by omega) ?_
        rw [zup_zup, zshf_s P (by omega)]
        refine z_iinc 36 dX6_sendBehindAll_33 rfl (by decide) rfl ?_
        refine z_goto 8 dX6_sendBehindAll_36 (by decide) ?_
        exact ih (by omega)
  have hz := hT.2.2.2.2.2
  refine zC.of zpl_X6 (Nat.le_of_ble_eq_true rfl) ?_
  have zh0 := hT.2.1
  refine z_aload_n 1 dX6_sendBehindAll_0 rfl rfl ?_
  refine z_iload_n 2 dX6_sendBehindAll_1 rfl rfl ?_
  refine z_cV1 5 dX6_sendBehindAll_2 rfl kX6_personAt zw_493 (Nat.le_of_ble_eq_true rfl) ⟨Nat.le_refl _, Nat.le_refl _⟩ (by first | with_reducible assumption | with_reducible exact zup_same _ _ _) ?_
  refine c_X6_personAt hT (by omega) ?_
  refine z_istore_n 6 dX6_sendBehindAll_5 rfl (by decide) ?_
  refine z_iload_n 7 dX6_sendBehindAll_6 rfl rfl ?_
  refine z_istore_n 8 dX6_sendBehindAll_7 rfl (by decide) ?_
  have k := key a0 (by omega) (Nat.le_refl _)
  rw [zshf_0, zup_self h hz] at k
  exact k
theorem c_X6_giveTeller {N : Nat} {p e : Int} (hT : zTel h t n m N D G E P) (hN : N ≤ 7) (hp : 0 ≤ p ∧ p < 8) (hv : ∀ i : Nat, i < N → 0 ≤ P i ∧ P i < 8 ∧ 0 ≤ E (P i) ∧ E (P i) < 8) (hQ : Q none (zup (zup h (t + 3) (zI 8 (zst E p e))) (t + 4) (zI 8 (zgv (zbrn E P p N) N P N).2))) : zC (d + 3) mX6_giveTeller 0 0 [vR t, vI p, vI e] h Q := by
  have h2 := hT.1
  have zh0 := hT.2.1
  have hT2 := hT.tl (zst E p e)
  generalize hb : zbrn E P p N = b at hQ
  generalize hh : zup h (t + 3) (zI 8 (zst E p e)) = h1 at hQ hT2
  have key : ∀ i : Nat, i ≤ N → Z (d + 3) mX6_giveTeller zo 21 [some (vR t), some (vI p), some (vI e), some (vI b), some (vI (zgv b N P i).1), some (vI i)] [] (zup h1 (t + 4) (zI 8 (zgv b N P i).2)) Q := by
    refine z_loop N ?_ ?_
    · have hT := hT2.pl (zgv b N P N).2
      have zh0 := hT.2.1
      refine z_iload 23 dX6_giveTeller_21 rfl rfl ?_
      refine z_aload_n 24 dX6_giveTeller_23 rfl rfl ?_
      refine z_getf (ci := 6) 27 dX6_giveTeller_24 rfl rfl zin_6 2 (by decide) zw_90 (by first | with_reducible assumption | with_reducible exact zup_same _ _ _) rfl ?_
      refine z_icmp_ge 61 30 dX6_giveTeller_27 (by decide) rfl (by first | omega | exact zr_b _ | exact zr_and _ _ | exact zr_or _ _ | exact zr_shl _ _) (by first | omega | exact zr_b _ | exact zr_and _ _ | exact zr_or _ _ | exact zr_shl _ _) (fun c27 => ?_) (fun c27 => ?_)
      · refine z_vret dX6_giveTeller_61 (by first | exact True.intro | exact Or.inl rfl | exact Or.inr rfl | assumption | (show _ ∨ _; omega)) ⟨Nat.le_refl _, Nat.le_refl _⟩ ?_
        exact hQ
      · exfalso; omega
    · intro i hi ih
      have hT := hT2.pl (zgv b N P i).2
      have zh0 := hT.2.1
      have hg := zgv_le b N P i
      refine z_iload 23 dX6_giveTeller_21 rfl rfl ?_
      refine z_aload_n 24 dX6_giveTeller_23 rfl rfl ?_
      refine z_getf (ci := 6) 27 dX6_giveTeller_24 rfl rfl zin_6 2 (by decide) zw_90 (by first | with_reducible assumption | with_reducible exact zup_same _ _ _) rfl ?_
      refine z_icmp_ge 61 30 dX6_giveTeller_27 (by decide) rfl (by first | omega | exact zr_b _ | exact zr_and _ _ | exact zr_or _ _ | exact zr_shl _ _) (by first | omega | exact zr_b _ | exact zr_and _ _ | exact zr_or _ _ | exact zr_shl _ _) (fun c27 => ?_) (fun c27 => ?_)
      · exfalso; omega
      · refine z_iload_n 31 dX6_giveTeller_30 rfl rfl ?_
        refine z_aload_n 32 dX6_giveTeller_31 rfl rfl ?_
        refine z_iload 34 dX6_giveTeller_32 rfl rfl ?_
        refine z_cV1 37 dX6_giveTeller_34 rfl kX6_personAt zw_493 (Nat.le_of_ble_eq_true rfl) ⟨Nat.le_refl _, Nat.le_refl _⟩ (by first | with_reducible assumption | with_reducible exact zup_same _ _ _) ?_
        refine c_X6_personAt hT (by omega) ?_
        refine z_ishr 38 dX6_giveTeller_37 rfl ?_
        refine z_iconst 39 dX6_giveTeller_38 rfl ?_
        refine z_iand 40 dX6_giveTeller_39 rfl ?_
        refine z_if_eq 52 43 dX6_giveTeller_40 (by decide) rfl (by first | omega | exact zr_b _ | exact zr_and _ _ | exact zr_or _ _ | exact zr_shl _ _) (fun c40 => ?_) (fun c40 => ?_)
        · try replace c40 := zb_0 c40
          rw [show zgv b N P (i + 1) = ((zgv b N P i).1 + 1, (zgv b N P i).2) from if_pos c40] at ih
          refine z_iinc 55 dX6_giveTeller_52 rfl (by decide) rfl ?_
          refine z_iinc 58 dX6_giveTeller_55 rfl (by decide) rfl ?_
          refine z_goto 21 dX6_giveTeller_58 (by decide) ?_
          exact ih
        · try replace c40 := zb_1 c40
          rw [show zgv b N P (i + 1) = ((zgv b N P i).1, zrot (zgv b N P i).2 (zgv b N P i).1 N) from if_neg c40] at ih
          refine z_aload_n 44 dX6_giveTeller_43 rfl rfl ?_
          refine z_iload 46 dX6_giveTeller_44 rfl rfl ?_
          refine z_cV1 49 dX6_giveTeller_46 rfl kX6_sendBehindAll zw_560 (Nat.le_of_ble_eq_true rfl) ⟨Nat.le_refl _, Nat.le_refl _⟩ (by first | with_reducible assumption | with_reducible exact zup_same _ _ _) ?_
          refine c_X6_sendBehindAll hT hN (by omega) ?_
          rw [zup_zup]
          refine z_goto 55 dX6_giveTeller_49 (by decide) ?_
          refine z_iinc 58 dX6_giveTeller_55 rfl (by decide) rfl ?_
          refine z_goto 21 dX6_giveTeller_58 (by decide) ?_
          exact ih
  have hz := hT2.2.2.2.2.2
  refine zC.of zpl_X6 (Nat.le_of_ble_eq_true rfl) ?_
  refine z_aload_n 1 dX6_giveTeller_0 rfl rfl ?_
  refine z_iload_n 2 dX6_giveTeller_1 rfl rfl ?_
  refine z_cV1 5 dX6_giveTeller_2 rfl kX6_branchOf zw_559 (Nat.le_of_ble_eq_true rfl) ⟨Nat.le_refl _, Nat.le_refl _⟩ (by first | with_reducible assumption | with_reducible exact zup_same _ _ _) ?_
  refine c_X6_branchOf hT hN hv ?_
  rw [hb]
  refine z_istore_n 6 dX6_giveTeller_5 rfl (by decide) ?_
  refine z_aload_n 7 dX6_giveTeller_6 rfl rfl ?_
  refine z_getf (ci := 6) 10 dX6_giveTeller_7 rfl rfl zin_6 5 (by decide) zw_93 (by first | with_reducible assumption | with_reducible exact zup_same _ _ _) rfl ?_
  refine z_iload_n 11 dX6_giveTeller_10 rfl rfl ?_
  refine z_iload_n 12 dX6_giveTeller_11 rfl rfl ?_
  refine z_cSN3 15 dX6_giveTeller_12 rfl kX9_put zn_340 (Nat.le_of_ble_eq_true rfl) ⟨Nat.le_refl _, Nat.le_refl _⟩ ?_
  refine c_X9_put hT.2.2.2.2.1 (by decide) (by omega) (by omega) ?_
  rw [hh]
  refine z_iconst 16 dX6_giveTeller_15 rfl ?_
  refine z_istore 18 dX6_giveTeller_16 rfl (by decide) ?_
  refine z_iconst 19 dX6_giveTeller_18 rfl ?_
  refine z_istore 21 dX6_giveTeller_19 rfl (by decide) ?_
  have k := key 0 (Nat.zero_le _)
  rw [show (zgv b N P 0).2 = P from rfl, zup_self h1 hz] at k
  exact k
/-- all of another TELLING is taken over -/
theorem c_X6_become {u : Nat} {n' m' s' : Int} {D' G' E' P' : Int → Int} (hT : zTel h t n m s D G E P) (hU : zTel h u n' m' s' D' G' E' P') (hu : t + 4 < u ∨ u + 4 < t) (hQ : ∀ h', zTel h' t n' m' s' D' G' E' P' → zMod t (t + 4) h h' → Q none h') : zC (d + 1) mX6_become 0 0 [vR t, vR u] h Q := by
  have h2 := hT.1
  refine zC.of zpl_X6 (Nat.le_of_ble_eq_true rfl) ?_
  have zh0 := hT.2.1
  have zh1 := hU.2.1
  refine z_aload_n 1 dX6_become_0 rfl rfl ?_
  refine z_aload_n 2 dX6_become_1 rfl rfl ?_
  refine z_getf (ci := 6) 5 dX6_become_2 rfl rfl zin_6 0 (by decide) zw_88 (by first | with_reducible assumption | with_reducible exact zup_same _ _ _) rfl ?_
  refine z_putf (ci := 6) 8 dX6_become_5 rfl rfl zin_6 tyX6_ok nmX6 0 (by decide) zw_88 rfl (fun _ => ⟨rfl, rfl⟩) (by omega) (by first | with_reducible assumption | with_reducible exact zup_same _ _ _) (Nat.le_of_ble_eq_true rfl) ?_
  show Z _ _ _ _ _ _ (zup h t (zO 6 [vI n', vI m, vI s, vR (t + 1), vR (t + 2), vR (t + 3), vR (t + 4)])) _
  have hU1 := hU.ot (a := t) (c := zO 6 [vI n', vI m, vI s, vR (t + 1), vR (t + 2), vR (t + 3), vR (t + 4)]) (by omega)
  have zh1 := hU1.2.1
  refine z_aload_n 9 dX6_become_8 rfl rfl ?_
  refine z_aload_n 10 dX6_become_9 rfl rfl ?_
  refine z_getf (ci := 6) 13 dX6_become_10 rfl rfl zin_6 1 (by decide) zw_89 (by first | with_reducible assumption | with_reducible exact zup_same _ _ _) rfl ?_
  refine z_putf (ci := 6) 16 dX6_become_13 rfl rfl zin_6 tyX6_ok nmX6 1 (by decide) zw_89 rfl (fun _ => ⟨rfl, rfl⟩) (by omega) (by first | with_reducible assumption | with_reducible exact zup_same _ _ _) (Nat.le_of_ble_eq_true rfl) ?_
  show Z _ _ _ _ _ _ (zup (zup h t (zO 6 [vI n', vI m, vI s, vR (t + 1), vR (t + 2), vR (t + 3), vR (t + 4)])) t (zO 6 [vI n', vI m', vI s, vR (t + 1), vR (t + 2), vR (t + 3), vR (t + 4)])) _
  have hU2 := hU1.ot (a := t) (c := zO 6 [vI n', vI m', vI s, vR (t + 1), vR (t + 2), vR (t + 3), vR (t + 4)]) (by omega)
  have zh1 := hU2.2.1
  refine z_aload_n 17 dX6_become_16 rfl rfl ?_
  refine z_aload_n 18 dX6_become_17 rfl rfl ?_
  refine z_getf (ci := 6) 21 dX6_become_18 rfl rfl zin_6 2 (by decide) zw_90 (by first | with_reducible assumption | with_reducible exact zup_same _ _ _) rfl ?_
  refine z_putf (ci := 6) 24 dX6_become_21 rfl rfl zin_6 tyX6_ok nmX6 2 (by decide) zw_90 rfl (fun _ => ⟨rfl, rfl⟩) (by omega) (by first | with_reducible assumption | with_reducible exact zup_same _ _ _) (Nat.le_of_ble_eq_true rfl) ?_
  rw [zup_zup, zup_zup]
  have hU3 := hU.ot (a := t) (c := zO 6 [vI n', vI m', vI s', vR (t + 1), vR (t + 2), vR (t + 3), vR (t + 4)]) (by omega)
  have hT3 := hT.fd n' m' s'
  have hM := (zMod.rf t (t + 4) h).up (a := t) (zO 6 [vI n', vI m', vI s', vR (t + 1), vR (t + 2), vR (t + 3), vR (t + 4)]) (by omega)
  show Z _ _ _ _ _ _ (zup h t (zO 6 [vI n', vI m', vI s', vR (t + 1), vR (t + 2), vR (t + 3), vR (t + 4)])) _
  generalize zup h t (zO 6 [vI n', vI m', vI s', vR (t + 1), vR (t + 2), vR (t + 3), vR (t + 4)]) = h3 at hU3 hT3 hM ⊢
  have zh0 := hT3.2.1
  have zh1 := hU3.2.1
  refine z_aload_n 25 dX6_become_24 rfl rfl ?_
  refine z_getf (ci := 6) 28 dX6_become_25 rfl rfl zin_6 3 (by decide) zw_91 (by first | with_reducible assumption | with_reducible exact zup_same _ _ _) rfl ?_
  refine z_iconst 29 dX6_become_28 rfl ?_
  refine z_aload_n 30 dX6_become_29 rfl rfl ?_
  refine z_getf (ci := 6) 33 dX6_become_30 rfl rfl zin_6 3 (by decide) zw_91 (by first | with_reducible assumption | with_reducible exact zup_same _ _ _) rfl ?_
  refine z_iconst 34 dX6_become_33 rfl ?_
  refine z_bipush 36 dX6_become_34 rfl (by decide) ?_
  refine z_copy (N := 8) 39 dX6_become_36 rfl zw_414 zw_416 zw_415 zw_72 (Nat.le_of_ble_eq_true rfl) rfl (by decide) hU3.2.2.1 hT3.2.2.1 (by omega) ?_
  have hU4 := hU3.ot (a := t + 1) (c := zI 8 D') (by omega)
  have hT4 := hT3.dl D'
  have hM := hM.up (a := t + 1) (zI 8 D') (by omega)
  have zh0 := hT4.2.1
  have zh1 := hU4.2.1
  refine z_aload_n 40 dX6_become_39 rfl rfl ?_
  refine z_getf (ci := 6) 43 dX6_become_40 rfl rfl zin_6 4 (by decide) zw_92 (by first | with_reducible assumption | with_reducible exact zup_same _ _ _) rfl ?_
  refine z_iconst 44 dX6_become_43 rfl ?_
  refine z_aload_n 45 dX6_become_44 rfl rfl ?_
  refine z_getf (ci := 6) 48 dX6_become_45 rfl rfl zin_6 4 (by decide) zw_92 (by first | with_reducible assumption | with_reducible exact zup_same _ _ _) rfl ?_
  refine z_iconst 49 dX6_become_48 rfl ?_
  refine z_bipush 51 dX6_become_49 rfl (by decide) ?_
  refine z_copy (N := 8) 54 dX6_become_51 rfl zw_414 zw_416 zw_415 zw_72 (Nat.le_of_ble_eq_true rfl) rfl (by decide) hU4.2.2.2.1 hT4.2.2.2.1 (by omega) ?_
  have hU5 := hU4.ot (a := t + 2) (c := zI 8 G') (by omega)
  have hT5 := hT4.gp G'
  have hM := hM.up (a := t + 2) (zI 8 G') (by omega)
  have zh0 := hT5.2.1
  have zh1 := hU5.2.1
  refine z_aload_n 55 dX6_become_54 rfl rfl ?_
  refine z_getf (ci := 6) 58 dX6_become_55 rfl rfl zin_6 5 (by decide) zw_93 (by first | with_reducible assumption | with_reducible exact zup_same _ _ _) rfl ?_
  refine z_iconst 59 dX6_become_58 rfl ?_
  refine z_aload_n 60 dX6_become_59 rfl rfl ?_
  refine z_getf (ci := 6) 63 dX6_become_60 rfl rfl zin_6 5 (by decide) zw_93 (by first | with_reducible assumption | with_reducible exact zup_same _ _ _) rfl ?_
  refine z_iconst 64 dX6_become_63 rfl ?_
  refine z_bipush 66 dX6_become_64 rfl (by decide) ?_
  refine z_copy (N := 8) 69 dX6_become_66 rfl zw_414 zw_416 zw_415 zw_72 (Nat.le_of_ble_eq_true rfl) rfl (by decide) hU5.2.2.2.2.1 hT5.2.2.2.2.1 (by omega) ?_
  have hU6 := hU5.ot (a := t + 3) (c := zI 8 E') (by omega)
  have hT6 := hT5.tl E'
  have hM := hM.up (a := t + 3) (zI 8 E') (by omega)
  have zh0 := hT6.2.1
  have zh1 := hU6.2.1
  refine z_aload_n 70 dX6_become_69 rfl rfl ?_
  refine z_getf (ci := 6) 73 dX6_become_70 rfl rfl zin_6 6 (by decide) zw_94 (by first | with_reducible assumption | with_reducible exact zup_same _ _ _) rfl ?_
  refine z_iconst 74 dX6_become_73 rfl ?_
  refine z_aload_n 75 dX6_become_74 rfl rfl ?_
  refine z_getf (ci := 6) 78 dX6_become_75 rfl rfl zin_6 6 (by decide) zw_94 (by first | with_reducible assumption | with_reducible exact zup_same _ _ _) rfl ?_
  refine z_iconst 79 dX6_become_78 rfl ?_
  refine z_bipush 81 dX6_become_79 rfl (by decide) ?_
  refine z_copy (N := 8) 84 dX6_become_81 rfl zw_414 zw_416 zw_415 zw_72 (Nat.le_of_ble_eq_true rfl) rfl (by decide) hU6.2.2.2.2.2 hT6.2.2.2.2.2 (by omega) ?_
  refine z_vret dX6_become_84 (by first | exact True.intro | exact Or.inl rfl | exact Or.inr rfl | assumption | (show _ ∨ _; omega)) ⟨Nat.le_refl _, Nat.le_refl _⟩ ?_
  exact hQ _ (hT6.pl P') (hM.up (a := t + 4) (zI 8 P') (by omega))
end TEL2
end
section
/-! LateLetters$Times -/
/-- ticks (8 k + person), free from, the greatest tick so far -/
abbrev zS : Type := (Int → Int) × (Int → Int) × Int
def zbeg (E : Int → Int) (k p : Int) (S : zS) : Int := max (S.1 (k * 8 + E p)) (S.2.1 (E p))
def zstep (D G E : Int → Int) (k p : Int) (S : zS) : zS := (zst S.1 (k * 8 + p) (zbeg E k p S + D (E p)), zst S.2.1 (E p) (zbeg E k p S + G (E p)), max S.2.2 (zbeg E k p S + D (E p)))
def zrow (D G E P : Int → Int) (k : Int) (S : zS) : Nat → zS
  | 0 => S
  | i + 1 => zstep D G E k (P i) (zrow D G E P k S i)
def zall (D G E P : Int → Int) (s : Nat) (K : Int → Int) : Nat → zS
  | 0 => (K, fun _ => 0, 0)
  | k + 1 => zrow D G E P k (zall D G E P s K k) s
def zTim (h : zH) (x : Nat) (K F : Int → Int) : Prop := 2 ≤ x ∧ h.1 x = some (zO 8 [vR (x + 1), vR (x + 2)]) ∧ h.1 (x + 1) = some (zI 24 K) ∧ h.1 (x + 2) = some (zI 8 F)
section TIMES
variable {d : Nat} {h : zH} {Q : Option zV → zH → Prop} {t x : Nat} {n m s : Int} {D G E P K F : Int → Int}
theorem zTim.ot (hX : zTim h x K F) {a : Nat} {c : zE} (ha : a < x ∨ x + 2 < a) : zTim (zup h a c) x K F := by
  obtain ⟨h0, h1, h2, h3⟩ := hX
  refine ⟨h0, ?_, ?_, ?_⟩ <;> (rw [zup_ne _ _ (by omega)]; assumption)
theorem zTim.mod {lo hi : Nat} {h' : zH} (hX : zTim h x K F) (hm : zMod lo hi h h') (ha : x + 2 < lo ∨ hi < x) : zTim h' x K F := by
  obtain ⟨h0, h1, h2, h3⟩ := hX
  refine ⟨h0, ?_, ?_, ?_⟩ <;> (rw [hm.1 _ (by omega)]; assumption)
theorem zTim.tk (hX : zTim h x K F) (K' : Int → Int) : zTim (zup h (x + 1) (zI 24 K')) x K' F := by
  obtain ⟨h0, h1, h2, h3⟩ := hX
  refine ⟨h0, ?_, zup_same _ _ _, ?_⟩ <;> (rw [zup_ne _ _ (by omega)]; assumption)
theorem zTim.fr (hX : zTim h x K F) (F' : Int → Int) : zTim (zup h (x + 2) (zI 8 F')) x K F' := by
  obtain ⟨h0, h1, h2, h3⟩ := hX
  refine ⟨h0, ?_, ?_, zup_same _ _ _⟩ <;> (rw [zup_ne _ _ (by omega)]; assumption)
theorem c_X8_tickOf {p k : Int} (hX : zTim h x K F) (hp : 0 ≤ k * 8 + p ∧ k * 8 + p < 24) (hQ : Q (some (vI (K (k * 8 + p)))) h) : zC (d + 1) mX8_tickOf 0 0 [vR x, vI p, vI k] h Q := by
  refine zC.of zpl_X8 (Nat.le_of_ble_eq_true rfl) ?_
  have zh0 := hX.2.1
  refine z_aload_n 1 dX8_tickOf_0 rfl rfl ?_
  refine z_getf (ci := 8) 4 dX8_tickOf_1 rfl rfl zin_8 0 (by decide) zw_117 (by first | with_reducible assumption | with_reducible exact zup_same _ _ _) rfl ?_
  refine z_iload_n 5 dX8_tickOf_4 rfl rfl ?_
  refine z_bipush 7 dX8_tickOf_5 rfl (by decide) ?_
  refine z_imul 8 dX8_tickOf_7 rfl ?_
  refine z_iload_n 9 dX8_tickOf_8 rfl rfl ?_
  refine z_iadd 10 dX8_tickOf_9 rfl ?_
  refine z_cSN2 13 dX8_tickOf_10 rfl kX9_at zn_387 (Nat.le_of_ble_eq_true rfl) ⟨Nat.le_refl _, Nat.le_refl _⟩ ?_
  refine c_X9_at hX.2.2.1 (by decide) (by omega) ?_
  refine z_ret dX8_tickOf_13 (by first | exact True.intro | exact Or.inl rfl | exact Or.inr rfl | assumption | (show _ ∨ _; omega)) ⟨Nat.le_refl _, Nat.le_refl _⟩ ?_
  exact hQ
/-- the cells of Times, written anew -/
def ztm (h : zH) (x : Nat) (S : zS) : zH := zup (zup h (x + 2) (zI 8 S.2.1)) (x + 1) (zI 24 S.1)
theorem ztm_Tim (hX : zTim h x K F) (S : zS) : zTim (ztm h x S) x S.1 S.2.1 := (hX.fr S.2.1).tk S.1
theorem ztm_Tel (hT : zTel h t n m s D G E P) (hx : x + 2 < t ∨ t + 4 < x) (S : zS) : zTel (ztm h x S) t n m s D G E P := (hT.ot (by omega)).ot (by omega)
theorem ztm_up (h : zH) (x : Nat) (S : zS) (K F : Int → Int) : zup (zup (ztm h x S) (x + 2) (zI 8 F)) (x + 1) (zI 24 K) = ztm h x (K, F, S.2.2) := by
  unfold ztm
  rw [zup_comm _ _ _ (show x + 1 ≠ x + 2 by omega), zup_zup, zup_zup]
theorem ztm_Mod (h : zH) (x : Nat) (S : zS) : zMod (x + 1) (x + 2) h (ztm h x S) := ((zMod.rf _ _ h).up _ (by omega)).up _ (by omega)
theorem c_X8_send {p k : Int} {S : zS} (hX : zTim h x S.1 S.2.1) (hT : zTel h t n m s D G E P) (hx : x + 2 < t ∨ t + 4 < x) (hk : 0 ≤ k ∧ k < 3) (hp : 0 ≤ p ∧ p < 8) (he : 0 ≤ E p ∧ E p < 8) (h1 : 0 ≤ S.1 (k * 8 + E p) ∧ S.1 (k * 8 + E p) ≤ 100000) (h2 : 0 ≤ S.2.1 (E p) ∧ S.2.1 (E p) ≤ 100000)
    (hQ : Q (some (vI (zbeg E k p S + D (E p)))) (ztm h x (zstep D G E k p S))) : zC (d + 2) mX8_send 0 0 [vR x, vR t, vI p, vI k] h Q := by
  have hx2 := hX.1
  have ht2 := hT.1
  refine zC.of zpl_X8 (Nat.le_of_ble_eq_true rfl) ?_
  have zh0 := hT.2.1
  have zh1 := hX.2.1
  refine z_aload_n 1 dX8_send_0 rfl rfl ?_
  refine z_iload_n 2 dX8_send_1 rfl rfl ?_
  refine z_cV1 5 dX8_send_2 rfl kX6_tellerOf zw_379 (Nat.le_of_ble_eq_true rfl) ⟨Nat.le_refl _, Nat.le_refl _⟩ (by first | with_reducible assumption | with_reducible exact zup_same _ _ _) ?_
  refine c_X6_tellerOf hT hp ?_
  refine z_istore 7 dX8_send_5 rfl (by decide) ?_
  refine z_aload_n 8 dX8_send_7 rfl rfl ?_
  refine z_iload 10 dX8_send_8 rfl rfl ?_
  refine z_iload_n 11 dX8_send_10 rfl rfl ?_
  refine z_cV2 14 dX8_send_11 rfl kX8_tickOf zw_383 (Nat.le_of_ble_eq_true rfl) ⟨Nat.le_refl _, Nat.le_refl _⟩ (by first | with_reducible assumption | with_reducible exact zup_same _ _ _) ?_
  refine c_X8_tickOf hX (by omega) ?_
  refine z_aload_n 15 dX8_send_14 rfl rfl ?_
  refine z_getf (ci := 8) 18 dX8_send_15 rfl rfl zin_8 1 (by decide) zw_118 (by first | with_reducible assumption | with_reducible exact zup_same _ _ _) rfl ?_
  refine z_iload 20 dX8_send_18 rfl rfl ?_
  refine z_cSN2 23 dX8_send_20 rfl kX9_at zn_387 (Nat.le_of_ble_eq_true rfl) ⟨Nat.le_refl _, Nat.le_refl _⟩ ?_
  refine c_X9_at hX.2.2.2 (by decide) (by omega) ?_
  refine z_max 26 dX8_send_23 rfl zw_388 zw_174 zw_68 zw_175 (Nat.le_of_ble_eq_true rfl) ⟨Nat.le_refl _, Nat.le_refl _⟩ (by first | omega | exact zr_b _ | exact zr_and _ _ | exact zr_or _ _ | exact zr_shl _ _) (by first | omega | exact zr_b _ | exact zr_and _ _ | exact zr_or _ _ | exact zr_shl _ _) ?_
  refine z_istore 28 dX8_send_26 rfl (by decide) ?_
  refine z_iload 30 dX8_send_28 rfl rfl ?_
  refine z_aload_n 31 dX8_send_30 rfl rfl ?_
  refine z_iload 33 dX8_send_31 rfl rfl ?_
  refine z_cV1 36 dX8_send_33 rfl kX6_delayOf zw_389 (Nat.le_of_ble_eq_true rfl) ⟨Nat.le_refl _, Nat.le_refl _⟩ (by first | with_reducible assumption | with_reducible exact zup_same _ _ _) ?_
  refine c_X6_delayOf hT he ?_
  refine z_iadd 37 dX8_send_36 rfl ?_
  refine z_istore 39 dX8_send_37 rfl (by decide) ?_
  refine z_aload_n 40 dX8_send_39 rfl rfl ?_
  refine z_getf (ci := 8) 43 dX8_send_40 rfl rfl zin_8 1 (by decide) zw_118 (by first | with_reducible assumption | with_reducible exact zup_same _ _ _) rfl ?_
  refine z_iload 45 dX8_send_43 rfl rfl ?_
  refine z_iload 47 dX8_send_45 rfl rfl ?_
  refine z_aload_n 48 dX8_send_47 rfl rfl ?_
  refine z_iload 50 dX8_send_48 rfl rfl ?_
  refine z_cV1 53 dX8_send_50 rfl kX6_gapOf zw_393 (Nat.le_of_ble_eq_true rfl) ⟨Nat.le_refl _, Nat.le_refl _⟩ (by first | with_reducible assumption | with_reducible exact zup_same _ _ _) ?_
  refine c_X6_gapOf hT he ?_
  refine z_iadd 54 dX8_send_53 rfl ?_
  refine z_cSN3 57 dX8_send_54 rfl kX9_put zn_361 (Nat.le_of_ble_eq_true rfl) ⟨Nat.le_refl _, Nat.le_refl _⟩ ?_
  refine c_X9_put hX.2.2.2 (by decide) (by omega) (by omega) ?_
  have hX := hX.fr (zst S.2.1 (E p) (max (S.1 (k * 8 + E p)) (S.2.1 (E p)) + G (E p)))
  have zh1 := hX.2.1
  refine z_aload_n 58 dX8_send_57 rfl rfl ?_
  refine z_getf (ci := 8) 61 dX8_send_58 rfl rfl zin_8 0 (by decide) zw_117 (by first | with_reducible assumption | with_reducible exact zup_same _ _ _) rfl ?_
  refine z_iload_n 62 dX8_send_61 rfl rfl ?_
  refine z_bipush 64 dX8_send_62 rfl (by decide) ?_
  refine z_imul 65 dX8_send_64 rfl ?_
  refine z_iload_n 66 dX8_send_65 rfl rfl ?_
  refine z_iadd 67 dX8_send_66 rfl ?_
  refine z_iload 69 dX8_send_67 rfl rfl ?_
  refine z_cSN3 72 dX8_send_69 rfl kX9_put zn_361 (Nat.le_of_ble_eq_true rfl) ⟨Nat.le_refl _, Nat.le_refl _⟩ ?_
  refine c_X9_put hX.2.2.1 (by decide) (by omega) (by omega) ?_
  refine z_iload 74 dX8_send_72 rfl rfl ?_
  refine z_ret dX8_send_74 (by first | exact True.intro | exact Or.inl rfl | exact Or.inr rfl | assumption | (show _ ∨ _; omega)) ⟨Nat.le_refl _, Nat.le_refl _⟩ ?_
  exact hQ
set_option maxHeartbeats 1000000 in
theorem c_X8_follow {M N : Nat} (hX : zTim h x K F) (hT : zTel h t n M N D G E P) (hx : x + 2 < t ∨ t + 4 < x) (hM : M ≤ 3) (hN : N ≤ 7) (hv : ∀ i : Nat, i < N → 0 ≤ P i ∧ P i < 8 ∧ 0 ≤ E (P i) ∧ E (P i) < 8)
    (hB : ∀ k i : Nat, k < M → i < N → 0 ≤ (zrow D G E P k (zall D G E P N K k) i).1 (k * 8 + E (P i)) ∧ (zrow D G E P k (zall D G E P N K k) i).1 (k * 8 + E (P i)) ≤ 100000 ∧ 0 ≤ (zrow D G E P k (zall D G E P N K k) i).2.1 (E (P i)) ∧ (zrow D G E P k (zall D G E P N K k) i).2.1 (E (P i)) ≤ 100000 ∧ 0 ≤ (zrow D G E P k (zall D G E P N K k) i).2.2 ∧ (zrow D G E P k (zall D G E P N K k) i).2.2 ≤ 200000 ∧ 0 ≤ D (E (P i)) ∧ D (E (P i)) ≤ 1000)
    (hQ : Q (some (vI (zall D G E P N K M).2.2)) (ztm h x (zall D G E P N K M))) : zC (d + 3) mX8_follow 0 0 [vR x, vR t] h Q := by
  have hx2 := hX.1
  have ht2 := hT.1
  have zt := hT.2.1
  have key : ∀ k : Nat, k ≤ M → ∀ w : Option zV, Z (d + 3) mX8_follow zo 27 [some (vR x), some (vR t), some (vI (zall D G E P N K k).2.2), some (vI k), w] [] (ztm h x (zall D G E P N K k)) Q := by
    refine z_loop M ?_ ?_
    · intro w
      have hT := ztm_Tel hT hx (zall D G E P N K M)
      have zh0 := hT.2.1
      refine z_iload_n 28 dX8_follow_27 rfl rfl ?_
      refine z_aload_n 29 dX8_follow_28 rfl rfl ?_
      refine z_cV0 32 dX8_follow_29 rfl kX6_news zw_362 (Nat.le_of_ble_eq_true rfl) ⟨Nat.le_refl _, Nat.le_refl _⟩ (by first | with_reducible assumption | with_reducible exact zup_same _ _ _) ?_
      refine c_X6_news hT ?_
      refine z_icmp_ge 76 35 dX8_follow_32 (by decide) rfl (by first | omega | exact zr_b _ | exact zr_and _ _ | exact zr_or _ _ | exact zr_shl _ _) (by first | omega | exact zr_b _ | exact zr_and _ _ | exact zr_or _ _ | exact zr_shl _ _) (fun c32 => ?_) (fun c32 => ?_)
      · refine z_iload_n 77 dX8_follow_76 rfl rfl ?_
        refine z_ret dX8_follow_77 (by first | exact True.intro | exact Or.inl rfl | exact Or.inr rfl | assumption | (show _ ∨ _; omega)) ⟨Nat.le_refl _, Nat.le_refl _⟩ ?_
        exact hQ
      · exfalso; omega
    · intro k hk ih w
      have inner : ∀ i : Nat, i ≤ N → Z (d + 3) mX8_follow zo 38 [some (vR x), some (vR t), some (vI (zrow D G E P k (zall D G E P N K k) i).2.2), some (vI k), some (vI i)] [] (ztm h x (zrow D G E P k (zall D G E P N K k) i)) Q := by
        refine z_loop N ?_ ?_
        · have hT := ztm_Tel hT hx (zrow D G E P k (zall D G E P N K k) N)
          have zh0 := hT.2.1
          refine z_iload 40 dX8_follow_38 rfl rfl ?_
          refine z_aload_n 41 dX8_follow_40 rfl rfl ?_
          refine z_cV0 44 dX8_follow_41 rfl kX6_standing zw_366 (Nat.le_of_ble_eq_true rfl) ⟨Nat.le_refl _, Nat.le_refl _⟩ (by first | with_reducible assumption | with_reducible exact zup_same _ _ _) ?_
          refine c_X6_standing hT ?_
          refine z_icmp_ge 70 47 dX8_follow_44 (by decide) rfl (by first | omega | exact zr_b _ | exact zr_and _ _ | exact zr_or _ _ | exact zr_shl _ _) (by first | omega | exact zr_b _ | exact zr_and _ _ | exact zr_or _ _ | exact zr_shl _ _) (fun c44 => ?_) (fun c44 => ?_)
          · refine z_iinc 73 dX8_follow_70 rfl (by decide) rfl ?_
            refine z_goto 27 dX8_follow_73 (by decide) ?_
            exact ih _
          · exfalso; omega
        · intro i hi ih2
          have hvi := hv i hi
          obtain ⟨b1, b2, b3, b4, b5, b6, b7, b8⟩ := hB k i hk hi
          change Z (d + 3) mX8_follow zo 38 [some (vR x), some (vR t), some (vI (zstep D G E k (P i) (zrow D G E P k (zall D G E P N K k) i)).2.2), some (vI k), some (vI ((i + 1 : Nat) : Int))] [] (ztm h x (zstep D G E k (P i) (zrow D G E P k (zall D G E P N K k) i))) Q at ih2
          generalize zrow D G E P k (zall D G E P N K k) i = S at b1 b2 b3 b4 b5 b6 ih2 ⊢
          have hT := ztm_Tel hT hx S
          have hX := ztm_Tim hX S
          have zh0 := hT.2.1
          have zh1 := hX.2.1
          refine z_iload 40 dX8_follow_38 rfl rfl ?_
          refine z_aload_n 41 dX8_follow_40 rfl rfl ?_
          refine z_cV0 44 dX8_follow_41 rfl kX6_standing zw_366 (Nat.le_of_ble_eq_true rfl) ⟨Nat.le_refl _, Nat.le_refl _⟩ (by first | with_reducible assumption | with_reducible exact zup_same _ _ _) ?_
          refine c_X6_standing hT ?_
          refine z_icmp_ge 70 47 dX8_follow_44 (by decide) rfl (by first | omega | exact zr_b _ | exact zr_and _ _ | exact zr_or _ _ | exact zr_shl _ _) (by first | omega | exact zr_b _ | exact zr_and _ _ | exact zr_or _ _ | exact zr_shl _ _) (fun c44 => ?_) (fun c44 => ?_)
          · exfalso; omega
          · refine z_iload_n 48 dX8_follow_47 rfl rfl ?_
            refine z_aload_n 49 dX8_follow_48 rfl rfl ?_
            refine z_aload_n 50 dX8_follow_49 rfl rfl ?_
            refine z_aload_n 51 dX8_follow_50 rfl rfl ?_
            refine z_iload 53 dX8_follow_51 rfl rfl ?_
            refine z_cV1 56 dX8_follow_53 rfl kX6_personAt zw_370 (Nat.le_of_ble_eq_true rfl) ⟨Nat.le_refl _, Nat.le_refl _⟩ (by first | with_reducible assumption | with_reducible exact zup_same _ _ _) ?_
            refine c_X6_personAt hT (by omega) ?_
            refine z_iload_n 57 dX8_follow_56 rfl rfl ?_
            refine z_cV3 60 dX8_follow_57 rfl kX8_send zw_375 (Nat.le_of_ble_eq_true rfl) ⟨Nat.le_refl _, Nat.le_refl _⟩ (by first | with_reducible assumption | with_reducible exact zup_same _ _ _) ?_
            refine c_X8_send hX hT hx (by omega) (by omega) (by omega) (by omega) (by omega) ?_
            unfold zstep
            rw [show ztm (ztm h x S) x (zst S.1 (k * 8 + P i) (zbeg E k (P i) S + D (E (P i))), zst S.2.1 (E (P i)) (zbeg E k (P i) S + G (E (P i))), max S.2.2 (zbeg E k (P i) S + D (E (P i)))) = ztm h x (zstep D G E k (P i) S) from ztm_up h x S _ _]
            refine z_max 63 dX8_follow_60 rfl zw_388 zw_174 zw_68 zw_175 (Nat.le_of_ble_eq_true rfl) ⟨Nat.le_refl _, Nat.le_refl _⟩ (by first | omega | (unfold zbeg; omega)) (by first | omega | (unfold zbeg; omega)) ?_
            refine z_istore_n 64 dX8_follow_63 rfl (by decide) ?_
            refine z_iinc 67 dX8_follow_64 rfl (by decide) rfl ?_
            refine z_goto 38 dX8_follow_67 (by decide) ?_
            exact ih2
      have hT := ztm_Tel hT hx (zall D G E P N K k)
      have zh0 := hT.2.1
      refine z_iload_n 28 dX8_follow_27 rfl rfl ?_
      refine z_aload_n 29 dX8_follow_28 rfl rfl ?_
      refine z_cV0 32 dX8_follow_29 rfl kX6_news zw_362 (Nat.le_of_ble_eq_true rfl) ⟨Nat.le_refl _, Nat.le_refl _⟩ (by first | with_reducible assumption | with_reducible exact zup_same _ _ _) ?_
      refine c_X6_news hT ?_
      refine z_icmp_ge 76 35 dX8_follow_32 (by decide) rfl (by first | omega | exact zr_b _ | exact zr_and _ _ | exact zr_or _ _ | exact zr_shl _ _) (by first | omega | exact zr_b _ | exact zr_and _ _ | exact zr_or _ _ | exact zr_shl _ _) (fun c32 => ?_) (fun c32 => ?_)
      · exfalso; omega
      · refine z_iconst 36 dX8_follow_35 rfl ?_
        refine z_istore 38 dX8_follow_36 rfl (by decide) ?_
        exact inner 0 (Nat.zero_le _)
  have zero : ∀ i : Nat, i ≤ 8 → ∀ w v : Option zV, Z (d + 3) mX8_follow zo 2 [some (vR x), some (vR t), some (vI i), w, v] [] (zup h (x + 2) (zI 8 (fun j => if 0 ≤ j ∧ j < i then 0 else F j))) Q := by
    refine z_loop 8 ?_ ?_
    · intro w v
      have hX := hX.fr (fun j => if 0 ≤ j ∧ j < ((8 : Nat) : Int) then 0 else F j)
      refine z_ext hX.2.2.2 (g := fun _ => 0) (fun i h1 h2 => if_pos ⟨h1, h2⟩) ?_
      rw [zup_zup]
      have e0 : ztm h x (zall D G E P N K 0) = zup h (x + 2) (zI 8 (fun _ => 0)) := by
        have hz := (hX.fr (fun _ => 0)).2.2.1
        rw [zup_zup] at hz
        show zup (zup h (x + 2) (zI 8 (fun _ => 0))) (x + 1) (zI 24 K) = _
        exact zup_self _ hz
      rw [← e0]
      refine z_iload_n 3 dX8_follow_2 rfl rfl ?_
      refine z_bipush 5 dX8_follow_3 rfl (by decide) ?_
      refine z_icmp_ge 23 8 dX8_follow_5 (by decide) rfl (by first | omega | exact zr_b _ | exact zr_and _ _ | exact zr_or _ _ | exact zr_shl _ _) (by first | omega | exact zr_b _ | exact zr_and _ _ | exact zr_or _ _ | exact zr_shl _ _) (fun c5 => ?_) (fun c5 => ?_)
      · refine z_iconst 24 dX8_follow_23 rfl ?_
        refine z_istore_n 25 dX8_follow_24 rfl (by decide) ?_
        refine z_iconst 26 dX8_follow_25 rfl ?_
        refine z_istore_n 27 dX8_follow_26 rfl (by decide) ?_
        exact key 0 (Nat.zero_le _) _
      · exfalso; omega
    · intro i hi ih w v
      have hX := hX.fr (fun j => if 0 ≤ j ∧ j < (i : Int) then 0 else F j)
      have zh0 := hX.2.1
      refine z_iload_n 3 dX8_follow_2 rfl rfl ?_
      refine z_bipush 5 dX8_follow_3 rfl (by decide) ?_
      refine z_icmp_ge 23 8 dX8_follow_5 (by decide) rfl (by first | omega | exact zr_b _ | exact zr_and _ _ | exact zr_or _ _ | exact zr_shl _ _) (by first | omega | exact zr_b _ | exact zr_and _ _ | exact zr_or _ _ | exact zr_shl _ _) (fun c5 => ?_) (fun c5 => ?_)
      · exfalso; omega
      · refine z_aload_n 9 dX8_follow_8 rfl rfl ?_
        refine z_getf (ci := 8) 12 dX8_follow_9 rfl rfl zin_8 1 (by decide) zw_118 (by first | with_reducible assumption | with_reducible exact zup_same _ _ _) rfl ?_
        refine z_iload_n 13 dX8_follow_12 rfl rfl ?_
        refine z_iconst 14 dX8_follow_13 rfl ?_
        refine z_cSN3 17 dX8_follow_14 rfl kX9_put zn_361 (Nat.le_of_ble_eq_true rfl) ⟨Nat.le_refl _, Nat.le_refl _⟩ ?_
        refine c_X9_put hX.2.2.2 (by decide) (by omega) (by omega) ?_
        rw [zup_zup, show zst (fun j => if 0 ≤ j ∧ j < (i : Int) then 0 else F j) i 0 = (fun j => if 0 ≤ j ∧ j < ((i + 1 : Nat) : Int) then 0 else F j) from by funext j; unfold zst; by_cases e : j = i <;> simp [e] <;> (try omega) <;> (by_cases e2 : 0 ≤ j ∧ j < (i : Int) <;> simp [e2] <;> omega)]
        refine z_iinc 20 dX8_follow_17 rfl (by decide) rfl ?_
        refine z_goto 2 dX8_follow_20 (by decide) ?_
        exact ih _ _
  refine zC.of zpl_X8 (Nat.le_of_ble_eq_true rfl) ?_
  refine z_iconst 1 dX8_follow_0 rfl ?_
  refine z_istore_n 2 dX8_follow_1 rfl (by decide) ?_
  have k := zero 0 (by omega) none none
  rw [show (fun j => if 0 ≤ j ∧ j < ((0 : Nat) : Int) then 0 else F j) = F from by funext j; rw [if_neg (by omega)], zup_self h hX.2.2.2] at k
  exact k
end TIMES
end
