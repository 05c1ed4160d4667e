section
-- ===== PART A: goes FIRST, ahead of the names: the tables' words, and 'selects' of the private methods out of them =====
/-- a private method of a class that the tables say can be made, by its rows of tables_1 -/
def lw_okq (q : MethodName × Nat) : Prop := (q.1.cls ≠ "java/lang/invoke/MethodHandle" ∧ q.1.cls ≠ "java/lang/invoke/VarHandle") ∧ Cond.instantiable q.1.cls q.2 ∈ tables_1 ∧ Cond.privateMethod q.1 ∈ tables_1 ∧ Cond.instanceMethod q.1 ∈ tables_1
theorem lw_p0 : lw_okq (⟨"PushedUp", "refuse", "(I)I"⟩, 10) := ⟨⟨by decide +kernel, by decide +kernel⟩, List.mem_of_getElem? (i := 11) (by decide +kernel), List.mem_of_getElem? (i := 259) (by decide +kernel), List.mem_of_getElem? (i := 260) (by decide +kernel)⟩
theorem lw_p1 : lw_okq (⟨"PushedUp$Tape", "formFault", "()I"⟩, 7) := ⟨⟨by decide +kernel, by decide +kernel⟩, List.mem_of_getElem? (i := 165) (by decide +kernel), List.mem_of_getElem? (i := 286) (by decide +kernel), List.mem_of_getElem? (i := 287) (by decide +kernel)⟩
theorem lw_p2 : lw_okq (⟨"PushedUp$Tape", "readStatement", "()V"⟩, 7) := ⟨⟨by decide +kernel, by decide +kernel⟩, List.mem_of_getElem? (i := 165) (by decide +kernel), List.mem_of_getElem? (i := 290) (by decide +kernel), List.mem_of_getElem? (i := 291) (by decide +kernel)⟩
theorem lw_p3 : lw_okq (⟨"PushedUp$Tape", "look", "()I"⟩, 7) := ⟨⟨by decide +kernel, by decide +kernel⟩, List.mem_of_getElem? (i := 165) (by decide +kernel), List.mem_of_getElem? (i := 294) (by decide +kernel), List.mem_of_getElem? (i := 295) (by decide +kernel)⟩
theorem lw_p4 : lw_okq (⟨"PushedUp$Tape", "readNumber", "(I)I"⟩, 7) := ⟨⟨by decide +kernel, by decide +kernel⟩, List.mem_of_getElem? (i := 165) (by decide +kernel), List.mem_of_getElem? (i := 298) (by decide +kernel), List.mem_of_getElem? (i := 299) (by decide +kernel)⟩
theorem lw_p5 : lw_okq (⟨"PushedUp$Tape", "take", "(Z)V"⟩, 7) := ⟨⟨by decide +kernel, by decide +kernel⟩, List.mem_of_getElem? (i := 165) (by decide +kernel), List.mem_of_getElem? (i := 302) (by decide +kernel), List.mem_of_getElem? (i := 303) (by decide +kernel)⟩
theorem lw_p6 : lw_okq (⟨"PushedUp$Tape", "bring", "(LPushedUp$Hill;)I"⟩, 7) := ⟨⟨by decide +kernel, by decide +kernel⟩, List.mem_of_getElem? (i := 165) (by decide +kernel), List.mem_of_getElem? (i := 306) (by decide +kernel), List.mem_of_getElem? (i := 307) (by decide +kernel)⟩
theorem lw_p7 : lw_okq (⟨"PushedUp$Tape", "bringStatement", "(LPushedUp$Hill;)Z"⟩, 7) := ⟨⟨by decide +kernel, by decide +kernel⟩, List.mem_of_getElem? (i := 165) (by decide +kernel), List.mem_of_getElem? (i := 310) (by decide +kernel), List.mem_of_getElem? (i := 311) (by decide +kernel)⟩
theorem lw_p8 : lw_okq (⟨"PushedUp$Hill", "onThisRail", "(I)I"⟩, 10) := ⟨⟨by decide +kernel, by decide +kernel⟩, List.mem_of_getElem? (i := 25) (by decide +kernel), List.mem_of_getElem? (i := 375) (by decide +kernel), List.mem_of_getElem? (i := 376) (by decide +kernel)⟩
theorem lw_p9 : lw_okq (⟨"PushedUp$Day", "start", "()V"⟩, 6) := ⟨⟨by decide +kernel, by decide +kernel⟩, List.mem_of_getElem? (i := 19) (by decide +kernel), List.mem_of_getElem? (i := 404) (by decide +kernel), List.mem_of_getElem? (i := 405) (by decide +kernel)⟩
theorem lw_p10 : lw_okq (⟨"PushedUp$Traffic", "lookAhead", "()V"⟩, 15) := ⟨⟨by decide +kernel, by decide +kernel⟩, List.mem_of_getElem? (i := 83) (by decide +kernel), List.mem_of_getElem? (i := 418) (by decide +kernel), List.mem_of_getElem? (i := 419) (by decide +kernel)⟩
theorem lw_p11 : lw_okq (⟨"PushedUp$Traffic", "firstEngine", "(Z)I"⟩, 15) := ⟨⟨by decide +kernel, by decide +kernel⟩, List.mem_of_getElem? (i := 83) (by decide +kernel), List.mem_of_getElem? (i := 422) (by decide +kernel), List.mem_of_getElem? (i := 423) (by decide +kernel)⟩
theorem lw_p12 : lw_okq (⟨"PushedUp$Day", "findTurns", "()V"⟩, 6) := ⟨⟨by decide +kernel, by decide +kernel⟩, List.mem_of_getElem? (i := 19) (by decide +kernel), List.mem_of_getElem? (i := 431) (by decide +kernel), List.mem_of_getElem? (i := 432) (by decide +kernel)⟩
theorem lw_p13 : lw_okq (⟨"PushedUp$Day", "beginOne", "(I)Z"⟩, 6) := ⟨⟨by decide +kernel, by decide +kernel⟩, List.mem_of_getElem? (i := 19) (by decide +kernel), List.mem_of_getElem? (i := 436) (by decide +kernel), List.mem_of_getElem? (i := 437) (by decide +kernel)⟩
theorem lw_p14 : lw_okq (⟨"PushedUp$Day", "hangs", "(I)Z"⟩, 6) := ⟨⟨by decide +kernel, by decide +kernel⟩, List.mem_of_getElem? (i := 19) (by decide +kernel), List.mem_of_getElem? (i := 440) (by decide +kernel), List.mem_of_getElem? (i := 441) (by decide +kernel)⟩
theorem lw_p15 : lw_okq (⟨"PushedUp$Day", "someWaits", "(I)Z"⟩, 6) := ⟨⟨by decide +kernel, by decide +kernel⟩, List.mem_of_getElem? (i := 19) (by decide +kernel), List.mem_of_getElem? (i := 444) (by decide +kernel), List.mem_of_getElem? (i := 445) (by decide +kernel)⟩
def lw_privs_1 : List (MethodName × Nat) := [(⟨"PushedUp", "refuse", "(I)I"⟩, 10), (⟨"PushedUp$Tape", "formFault", "()I"⟩, 7), (⟨"PushedUp$Tape", "readStatement", "()V"⟩, 7), (⟨"PushedUp$Tape", "look", "()I"⟩, 7), (⟨"PushedUp$Tape", "readNumber", "(I)I"⟩, 7), (⟨"PushedUp$Tape", "take", "(Z)V"⟩, 7), (⟨"PushedUp$Tape", "bring", "(LPushedUp$Hill;)I"⟩, 7), (⟨"PushedUp$Tape", "bringStatement", "(LPushedUp$Hill;)Z"⟩, 7), (⟨"PushedUp$Hill", "onThisRail", "(I)I"⟩, 10), (⟨"PushedUp$Day", "start", "()V"⟩, 6), (⟨"PushedUp$Traffic", "lookAhead", "()V"⟩, 15), (⟨"PushedUp$Traffic", "firstEngine", "(Z)I"⟩, 15), (⟨"PushedUp$Day", "findTurns", "()V"⟩, 6), (⟨"PushedUp$Day", "beginOne", "(I)Z"⟩, 6), (⟨"PushedUp$Day", "hangs", "(I)Z"⟩, 6), (⟨"PushedUp$Day", "someWaits", "(I)Z"⟩, 6)]
theorem lw_r1 : ∀ q ∈ lw_privs_1, lw_okq q := List.forall_mem_cons.mpr ⟨lw_p0, List.forall_mem_cons.mpr ⟨lw_p1, List.forall_mem_cons.mpr ⟨lw_p2, List.forall_mem_cons.mpr ⟨lw_p3, List.forall_mem_cons.mpr ⟨lw_p4, List.forall_mem_cons.mpr ⟨lw_p5, List.forall_mem_cons.mpr ⟨lw_p6, List.forall_mem_cons.mpr ⟨lw_p7, List.forall_mem_cons.mpr ⟨lw_p8, List.forall_mem_cons.mpr ⟨lw_p9, List.forall_mem_cons.mpr ⟨lw_p10, List.forall_mem_cons.mpr ⟨lw_p11, List.forall_mem_cons.mpr ⟨lw_p12, List.forall_mem_cons.mpr ⟨lw_p13, List.forall_mem_cons.mpr ⟨lw_p14, List.forall_mem_cons.mpr ⟨lw_p15, fun _ h => absurd h List.not_mem_nil⟩⟩⟩⟩⟩⟩⟩⟩⟩⟩⟩⟩⟩⟩⟩⟩
theorem lw_p16 : lw_okq (⟨"PushedUp$Day", "isToCome", "(I)Z"⟩, 6) := ⟨⟨by decide +kernel, by decide +kernel⟩, List.mem_of_getElem? (i := 19) (by decide +kernel), List.mem_of_getElem? (i := 448) (by decide +kernel), List.mem_of_getElem? (i := 449) (by decide +kernel)⟩
theorem lw_p17 : lw_okq (⟨"PushedUp$Traffic", "moveEngine", "(ZI)V"⟩, 15) := ⟨⟨by decide +kernel, by decide +kernel⟩, List.mem_of_getElem? (i := 83) (by decide +kernel), List.mem_of_getElem? (i := 456) (by decide +kernel), List.mem_of_getElem? (i := 457) (by decide +kernel)⟩
theorem lw_p18 : lw_okq (⟨"PushedUp$Day", "firstThatCan", "(I)I"⟩, 6) := ⟨⟨by decide +kernel, by decide +kernel⟩, List.mem_of_getElem? (i := 19) (by decide +kernel), List.mem_of_getElem? (i := 460) (by decide +kernel), List.mem_of_getElem? (i := 461) (by decide +kernel)⟩
theorem lw_p19 : lw_okq (⟨"PushedUp$Day", "canFrom", "(I)I"⟩, 6) := ⟨⟨by decide +kernel, by decide +kernel⟩, List.mem_of_getElem? (i := 19) (by decide +kernel), List.mem_of_getElem? (i := 464) (by decide +kernel), List.mem_of_getElem? (i := 465) (by decide +kernel)⟩
theorem lw_p20 : lw_okq (⟨"PushedUp$Day", "isBefore", "(II)Z"⟩, 6) := ⟨⟨by decide +kernel, by decide +kernel⟩, List.mem_of_getElem? (i := 19) (by decide +kernel), List.mem_of_getElem? (i := 470) (by decide +kernel), List.mem_of_getElem? (i := 471) (by decide +kernel)⟩
theorem lw_p21 : lw_okq (⟨"PushedUp$Day", "nextChance", "(I)I"⟩, 6) := ⟨⟨by decide +kernel, by decide +kernel⟩, List.mem_of_getElem? (i := 19) (by decide +kernel), List.mem_of_getElem? (i := 478) (by decide +kernel), List.mem_of_getElem? (i := 479) (by decide +kernel)⟩
theorem lw_p22 : lw_okq (⟨"PushedUp", "findBestOrder", "()I"⟩, 10) := ⟨⟨by decide +kernel, by decide +kernel⟩, List.mem_of_getElem? (i := 11) (by decide +kernel), List.mem_of_getElem? (i := 505) (by decide +kernel), List.mem_of_getElem? (i := 506) (by decide +kernel)⟩
theorem lw_p23 : lw_okq (⟨"PushedUp", "waitedOnTrial", "()I"⟩, 10) := ⟨⟨by decide +kernel, by decide +kernel⟩, List.mem_of_getElem? (i := 11) (by decide +kernel), List.mem_of_getElem? (i := 513) (by decide +kernel), List.mem_of_getElem? (i := 514) (by decide +kernel)⟩
theorem lw_p24 : lw_okq (⟨"PushedUp$Hill", "swapInOrder", "(II)V"⟩, 10) := ⟨⟨by decide +kernel, by decide +kernel⟩, List.mem_of_getElem? (i := 25) (by decide +kernel), List.mem_of_getElem? (i := 522) (by decide +kernel), List.mem_of_getElem? (i := 523) (by decide +kernel)⟩
theorem lw_p25 : lw_okq (⟨"PushedUp$Row", "canFrom", "(LPushedUp$Hill;I)I"⟩, 6) := ⟨⟨by decide +kernel, by decide +kernel⟩, List.mem_of_getElem? (i := 194) (by decide +kernel), List.mem_of_getElem? (i := 575) (by decide +kernel), List.mem_of_getElem? (i := 576) (by decide +kernel)⟩
theorem lw_p26 : lw_okq (⟨"PushedUp$Row", "begin", "(LPushedUp$Hill;II)V"⟩, 6) := ⟨⟨by decide +kernel, by decide +kernel⟩, List.mem_of_getElem? (i := 194) (by decide +kernel), List.mem_of_getElem? (i := 583) (by decide +kernel), List.mem_of_getElem? (i := 584) (by decide +kernel)⟩
theorem lw_p27 : lw_okq (⟨"PushedUpModel", "refuse", "(I)I"⟩, 23) := ⟨⟨by decide +kernel, by decide +kernel⟩, List.mem_of_getElem? (i := 606) (by decide +kernel), List.mem_of_getElem? (i := 686) (by decide +kernel), List.mem_of_getElem? (i := 687) (by decide +kernel)⟩
theorem lw_p28 : lw_okq (⟨"PushedUpModel", "reads", "()I"⟩, 23) := ⟨⟨by decide +kernel, by decide +kernel⟩, List.mem_of_getElem? (i := 606) (by decide +kernel), List.mem_of_getElem? (i := 695) (by decide +kernel), List.mem_of_getElem? (i := 696) (by decide +kernel)⟩
theorem lw_p29 : lw_okq (⟨"PushedUpModel", "readsStatement", "()Z"⟩, 23) := ⟨⟨by decide +kernel, by decide +kernel⟩, List.mem_of_getElem? (i := 606) (by decide +kernel), List.mem_of_getElem? (i := 699) (by decide +kernel), List.mem_of_getElem? (i := 700) (by decide +kernel)⟩
theorem lw_p30 : lw_okq (⟨"PushedUpModel", "sign", "()I"⟩, 23) := ⟨⟨by decide +kernel, by decide +kernel⟩, List.mem_of_getElem? (i := 606) (by decide +kernel), List.mem_of_getElem? (i := 703) (by decide +kernel), List.mem_of_getElem? (i := 704) (by decide +kernel)⟩
theorem lw_p31 : lw_okq (⟨"PushedUpModel", "readsNumber", "(II)Z"⟩, 23) := ⟨⟨by decide +kernel, by decide +kernel⟩, List.mem_of_getElem? (i := 606) (by decide +kernel), List.mem_of_getElem? (i := 707) (by decide +kernel), List.mem_of_getElem? (i := 708) (by decide +kernel)⟩
def lw_privs_2 : List (MethodName × Nat) := [(⟨"PushedUp$Day", "isToCome", "(I)Z"⟩, 6), (⟨"PushedUp$Traffic", "moveEngine", "(ZI)V"⟩, 15), (⟨"PushedUp$Day", "firstThatCan", "(I)I"⟩, 6), (⟨"PushedUp$Day", "canFrom", "(I)I"⟩, 6), (⟨"PushedUp$Day", "isBefore", "(II)Z"⟩, 6), (⟨"PushedUp$Day", "nextChance", "(I)I"⟩, 6), (⟨"PushedUp", "findBestOrder", "()I"⟩, 10), (⟨"PushedUp", "waitedOnTrial", "()I"⟩, 10), (⟨"PushedUp$Hill", "swapInOrder", "(II)V"⟩, 10), (⟨"PushedUp$Row", "canFrom", "(LPushedUp$Hill;I)I"⟩, 6), (⟨"PushedUp$Row", "begin", "(LPushedUp$Hill;II)V"⟩, 6), (⟨"PushedUpModel", "refuse", "(I)I"⟩, 23), (⟨"PushedUpModel", "reads", "()I"⟩, 23), (⟨"PushedUpModel", "readsStatement", "()Z"⟩, 23), (⟨"PushedUpModel", "sign", "()I"⟩, 23), (⟨"PushedUpModel", "readsNumber", "(II)Z"⟩, 23)]
theorem lw_r2 : ∀ q ∈ lw_privs_2, lw_okq q := List.forall_mem_cons.mpr ⟨lw_p16, List.forall_mem_cons.mpr ⟨lw_p17, List.forall_mem_cons.mpr ⟨lw_p18, List.forall_mem_cons.mpr ⟨lw_p19, List.forall_mem_cons.mpr ⟨lw_p20, List.forall_mem_cons.mpr ⟨lw_p21, List.forall_mem_cons.mpr ⟨lw_p22, List.forall_mem_cons.mpr ⟨lw_p23, List.forall_mem_cons.mpr ⟨lw_p24, List.forall_mem_cons.mpr ⟨lw_p25, List.forall_mem_cons.mpr ⟨lw_p26, List.forall_mem_cons.mpr ⟨lw_p27, List.forall_mem_cons.mpr ⟨lw_p28, List.forall_mem_cons.mpr ⟨lw_p29, List.forall_mem_cons.mpr ⟨lw_p30, List.forall_mem_cons.mpr ⟨lw_p31, fun _ h => absurd h List.not_mem_nil⟩⟩⟩⟩⟩⟩⟩⟩⟩⟩⟩⟩⟩⟩⟩⟩
theorem lw_p32 : lw_okq (⟨"PushedUpModel", "isDigit", "()Z"⟩, 23) := ⟨⟨by decide +kernel, by decide +kernel⟩, List.mem_of_getElem? (i := 606) (by decide +kernel), List.mem_of_getElem? (i := 711) (by decide +kernel), List.mem_of_getElem? (i := 712) (by decide +kernel)⟩
theorem lw_p33 : lw_okq (⟨"PushedUpModel", "takesSign", "(I)Z"⟩, 23) := ⟨⟨by decide +kernel, by decide +kernel⟩, List.mem_of_getElem? (i := 606) (by decide +kernel), List.mem_of_getElem? (i := 715) (by decide +kernel), List.mem_of_getElem? (i := 716) (by decide +kernel)⟩
theorem lw_p34 : lw_okq (⟨"PushedUpModel", "comes", "(I)Z"⟩, 23) := ⟨⟨by decide +kernel, by decide +kernel⟩, List.mem_of_getElem? (i := 606) (by decide +kernel), List.mem_of_getElem? (i := 719) (by decide +kernel), List.mem_of_getElem? (i := 720) (by decide +kernel)⟩
theorem lw_p35 : lw_okq (⟨"PushedUpModel", "isPiece", "(I)Z"⟩, 23) := ⟨⟨by decide +kernel, by decide +kernel⟩, List.mem_of_getElem? (i := 606) (by decide +kernel), List.mem_of_getElem? (i := 727) (by decide +kernel), List.mem_of_getElem? (i := 728) (by decide +kernel)⟩
theorem lw_p36 : lw_okq (⟨"PushedUpModel", "isTrain", "(I)Z"⟩, 23) := ⟨⟨by decide +kernel, by decide +kernel⟩, List.mem_of_getElem? (i := 606) (by decide +kernel), List.mem_of_getElem? (i := 738) (by decide +kernel), List.mem_of_getElem? (i := 739) (by decide +kernel)⟩
theorem lw_p37 : lw_okq (⟨"PushedUpModel", "kindOf", "(I)I"⟩, 23) := ⟨⟨by decide +kernel, by decide +kernel⟩, List.mem_of_getElem? (i := 606) (by decide +kernel), List.mem_of_getElem? (i := 767) (by decide +kernel), List.mem_of_getElem? (i := 768) (by decide +kernel)⟩
theorem lw_p38 : lw_okq (⟨"PushedUpModel", "weight", "(I)I"⟩, 23) := ⟨⟨by decide +kernel, by decide +kernel⟩, List.mem_of_getElem? (i := 606) (by decide +kernel), List.mem_of_getElem? (i := 771) (by decide +kernel), List.mem_of_getElem? (i := 772) (by decide +kernel)⟩
theorem lw_p39 : lw_okq (⟨"PushedUpModel", "kindBy", "(I)I"⟩, 23) := ⟨⟨by decide +kernel, by decide +kernel⟩, List.mem_of_getElem? (i := 606) (by decide +kernel), List.mem_of_getElem? (i := 775) (by decide +kernel), List.mem_of_getElem? (i := 776) (by decide +kernel)⟩
theorem lw_p40 : lw_okq (⟨"PushedUpModel", "edgeBy", "(I)I"⟩, 23) := ⟨⟨by decide +kernel, by decide +kernel⟩, List.mem_of_getElem? (i := 606) (by decide +kernel), List.mem_of_getElem? (i := 779) (by decide +kernel), List.mem_of_getElem? (i := 780) (by decide +kernel)⟩
theorem lw_p41 : lw_okq (⟨"PushedUpModel", "baseOf", "()I"⟩, 23) := ⟨⟨by decide +kernel, by decide +kernel⟩, List.mem_of_getElem? (i := 606) (by decide +kernel), List.mem_of_getElem? (i := 787) (by decide +kernel), List.mem_of_getElem? (i := 788) (by decide +kernel)⟩
theorem lw_p42 : lw_okq (⟨"PushedUpModel", "takesOf", "(I)I"⟩, 23) := ⟨⟨by decide +kernel, by decide +kernel⟩, List.mem_of_getElem? (i := 606) (by decide +kernel), List.mem_of_getElem? (i := 795) (by decide +kernel), List.mem_of_getElem? (i := 796) (by decide +kernel)⟩
theorem lw_p43 : lw_okq (⟨"PushedUpModel", "day", "()V"⟩, 23) := ⟨⟨by decide +kernel, by decide +kernel⟩, List.mem_of_getElem? (i := 606) (by decide +kernel), List.mem_of_getElem? (i := 803) (by decide +kernel), List.mem_of_getElem? (i := 804) (by decide +kernel)⟩
theorem lw_p44 : lw_okq (⟨"PushedUpModel", "opens", "()V"⟩, 23) := ⟨⟨by decide +kernel, by decide +kernel⟩, List.mem_of_getElem? (i := 606) (by decide +kernel), List.mem_of_getElem? (i := 807) (by decide +kernel), List.mem_of_getElem? (i := 808) (by decide +kernel)⟩
theorem lw_p45 : lw_okq (⟨"PushedUpModel", "minute", "(I)V"⟩, 23) := ⟨⟨by decide +kernel, by decide +kernel⟩, List.mem_of_getElem? (i := 606) (by decide +kernel), List.mem_of_getElem? (i := 811) (by decide +kernel), List.mem_of_getElem? (i := 812) (by decide +kernel)⟩
theorem lw_p46 : lw_okq (⟨"PushedUpModel", "ends", "(I)V"⟩, 23) := ⟨⟨by decide +kernel, by decide +kernel⟩, List.mem_of_getElem? (i := 606) (by decide +kernel), List.mem_of_getElem? (i := 815) (by decide +kernel), List.mem_of_getElem? (i := 816) (by decide +kernel)⟩
theorem lw_p47 : lw_okq (⟨"PushedUpModel", "waits", "(II)Z"⟩, 23) := ⟨⟨by decide +kernel, by decide +kernel⟩, List.mem_of_getElem? (i := 606) (by decide +kernel), List.mem_of_getElem? (i := 819) (by decide +kernel), List.mem_of_getElem? (i := 820) (by decide +kernel)⟩
def lw_privs_3 : List (MethodName × Nat) := [(⟨"PushedUpModel", "isDigit", "()Z"⟩, 23), (⟨"PushedUpModel", "takesSign", "(I)Z"⟩, 23), (⟨"PushedUpModel", "comes", "(I)Z"⟩, 23), (⟨"PushedUpModel", "isPiece", "(I)Z"⟩, 23), (⟨"PushedUpModel", "isTrain", "(I)Z"⟩, 23), (⟨"PushedUpModel", "kindOf", "(I)I"⟩, 23), (⟨"PushedUpModel", "weight", "(I)I"⟩, 23), (⟨"PushedUpModel", "kindBy", "(I)I"⟩, 23), (⟨"PushedUpModel", "edgeBy", "(I)I"⟩, 23), (⟨"PushedUpModel", "baseOf", "()I"⟩, 23), (⟨"PushedUpModel", "takesOf", "(I)I"⟩, 23), (⟨"PushedUpModel", "day", "()V"⟩, 23), (⟨"PushedUpModel", "opens", "()V"⟩, 23), (⟨"PushedUpModel", "minute", "(I)V"⟩, 23), (⟨"PushedUpModel", "ends", "(I)V"⟩, 23), (⟨"PushedUpModel", "waits", "(II)Z"⟩, 23)]
theorem lw_r3 : ∀ q ∈ lw_privs_3, lw_okq q := List.forall_mem_cons.mpr ⟨lw_p32, List.forall_mem_cons.mpr ⟨lw_p33, List.forall_mem_cons.mpr ⟨lw_p34, List.forall_mem_cons.mpr ⟨lw_p35, List.forall_mem_cons.mpr ⟨lw_p36, List.forall_mem_cons.mpr ⟨lw_p37, List.forall_mem_cons.mpr ⟨lw_p38, List.forall_mem_cons.mpr ⟨lw_p39, List.forall_mem_cons.mpr ⟨lw_p40, List.forall_mem_cons.mpr ⟨lw_p41, List.forall_mem_cons.mpr ⟨lw_p42, List.forall_mem_cons.mpr ⟨lw_p43, List.forall_mem_cons.mpr ⟨lw_p44, List.forall_mem_cons.mpr ⟨lw_p45, List.forall_mem_cons.mpr ⟨lw_p46, List.forall_mem_cons.mpr ⟨lw_p47, fun _ h => absurd h List.not_mem_nil⟩⟩⟩⟩⟩⟩⟩⟩⟩⟩⟩⟩⟩⟩⟩⟩
theorem lw_p48 : lw_okq (⟨"PushedUpModel", "comesAt", "(I)I"⟩, 23) := ⟨⟨by decide +kernel, by decide +kernel⟩, List.mem_of_getElem? (i := 606) (by decide +kernel), List.mem_of_getElem? (i := 823) (by decide +kernel), List.mem_of_getElem? (i := 824) (by decide +kernel)⟩
theorem lw_p49 : lw_okq (⟨"PushedUpModel", "letsDown", "(I)Z"⟩, 23) := ⟨⟨by decide +kernel, by decide +kernel⟩, List.mem_of_getElem? (i := 606) (by decide +kernel), List.mem_of_getElem? (i := 827) (by decide +kernel), List.mem_of_getElem? (i := 828) (by decide +kernel)⟩
theorem lw_p50 : lw_okq (⟨"PushedUpModel", "singles", "()I"⟩, 23) := ⟨⟨by decide +kernel, by decide +kernel⟩, List.mem_of_getElem? (i := 606) (by decide +kernel), List.mem_of_getElem? (i := 831) (by decide +kernel), List.mem_of_getElem? (i := 832) (by decide +kernel)⟩
theorem lw_p51 : lw_okq (⟨"PushedUpModel", "isUp", "()Z"⟩, 23) := ⟨⟨by decide +kernel, by decide +kernel⟩, List.mem_of_getElem? (i := 606) (by decide +kernel), List.mem_of_getElem? (i := 835) (by decide +kernel), List.mem_of_getElem? (i := 836) (by decide +kernel)⟩
theorem lw_p52 : lw_okq (⟨"PushedUpModel", "goesDown", "(I)V"⟩, 23) := ⟨⟨by decide +kernel, by decide +kernel⟩, List.mem_of_getElem? (i := 606) (by decide +kernel), List.mem_of_getElem? (i := 839) (by decide +kernel), List.mem_of_getElem? (i := 840) (by decide +kernel)⟩
theorem lw_p53 : lw_okq (⟨"PushedUpModel", "hasEngine", "(I)Z"⟩, 23) := ⟨⟨by decide +kernel, by decide +kernel⟩, List.mem_of_getElem? (i := 606) (by decide +kernel), List.mem_of_getElem? (i := 843) (by decide +kernel), List.mem_of_getElem? (i := 844) (by decide +kernel)⟩
theorem lw_p54 : lw_okq (⟨"PushedUpModel", "letsUp", "(II)Z"⟩, 23) := ⟨⟨by decide +kernel, by decide +kernel⟩, List.mem_of_getElem? (i := 606) (by decide +kernel), List.mem_of_getElem? (i := 847) (by decide +kernel), List.mem_of_getElem? (i := 848) (by decide +kernel)⟩
theorem lw_p55 : lw_okq (⟨"PushedUpModel", "isDown", "()Z"⟩, 23) := ⟨⟨by decide +kernel, by decide +kernel⟩, List.mem_of_getElem? (i := 606) (by decide +kernel), List.mem_of_getElem? (i := 851) (by decide +kernel), List.mem_of_getElem? (i := 852) (by decide +kernel)⟩
theorem lw_p56 : lw_okq (⟨"PushedUpModel", "isAhead", "(II)Z"⟩, 23) := ⟨⟨by decide +kernel, by decide +kernel⟩, List.mem_of_getElem? (i := 606) (by decide +kernel), List.mem_of_getElem? (i := 855) (by decide +kernel), List.mem_of_getElem? (i := 856) (by decide +kernel)⟩
theorem lw_p57 : lw_okq (⟨"PushedUpModel", "placeIn", "(I)I"⟩, 23) := ⟨⟨by decide +kernel, by decide +kernel⟩, List.mem_of_getElem? (i := 606) (by decide +kernel), List.mem_of_getElem? (i := 859) (by decide +kernel), List.mem_of_getElem? (i := 860) (by decide +kernel)⟩
theorem lw_p58 : lw_okq (⟨"PushedUpModel", "goesUp", "(II)V"⟩, 23) := ⟨⟨by decide +kernel, by decide +kernel⟩, List.mem_of_getElem? (i := 606) (by decide +kernel), List.mem_of_getElem? (i := 863) (by decide +kernel), List.mem_of_getElem? (i := 864) (by decide +kernel)⟩
theorem lw_p59 : lw_okq (⟨"PushedUpModel", "allOf", "()I"⟩, 23) := ⟨⟨by decide +kernel, by decide +kernel⟩, List.mem_of_getElem? (i := 606) (by decide +kernel), List.mem_of_getElem? (i := 875) (by decide +kernel), List.mem_of_getElem? (i := 876) (by decide +kernel)⟩
theorem lw_p60 : lw_okq (⟨"PushedUpModel", "keeps", "()V"⟩, 23) := ⟨⟨by decide +kernel, by decide +kernel⟩, List.mem_of_getElem? (i := 606) (by decide +kernel), List.mem_of_getElem? (i := 887) (by decide +kernel), List.mem_of_getElem? (i := 888) (by decide +kernel)⟩
theorem lw_p61 : lw_okq (⟨"PushedUpModel", "goesOn", "(II)V"⟩, 23) := ⟨⟨by decide +kernel, by decide +kernel⟩, List.mem_of_getElem? (i := 606) (by decide +kernel), List.mem_of_getElem? (i := 891) (by decide +kernel), List.mem_of_getElem? (i := 892) (by decide +kernel)⟩
theorem lw_p62 : lw_okq (⟨"PushedUpModel", "putsBack", "()V"⟩, 23) := ⟨⟨by decide +kernel, by decide +kernel⟩, List.mem_of_getElem? (i := 606) (by decide +kernel), List.mem_of_getElem? (i := 895) (by decide +kernel), List.mem_of_getElem? (i := 896) (by decide +kernel)⟩
theorem lw_p63 : lw_okq (⟨"PushedUpModel", "weightsOf", "()I"⟩, 23) := ⟨⟨by decide +kernel, by decide +kernel⟩, List.mem_of_getElem? (i := 606) (by decide +kernel), List.mem_of_getElem? (i := 919) (by decide +kernel), List.mem_of_getElem? (i := 920) (by decide +kernel)⟩
def lw_privs_4 : List (MethodName × Nat) := [(⟨"PushedUpModel", "comesAt", "(I)I"⟩, 23), (⟨"PushedUpModel", "letsDown", "(I)Z"⟩, 23), (⟨"PushedUpModel", "singles", "()I"⟩, 23), (⟨"PushedUpModel", "isUp", "()Z"⟩, 23), (⟨"PushedUpModel", "goesDown", "(I)V"⟩, 23), (⟨"PushedUpModel", "hasEngine", "(I)Z"⟩, 23), (⟨"PushedUpModel", "letsUp", "(II)Z"⟩, 23), (⟨"PushedUpModel", "isDown", "()Z"⟩, 23), (⟨"PushedUpModel", "isAhead", "(II)Z"⟩, 23), (⟨"PushedUpModel", "placeIn", "(I)I"⟩, 23), (⟨"PushedUpModel", "goesUp", "(II)V"⟩, 23), (⟨"PushedUpModel", "allOf", "()I"⟩, 23), (⟨"PushedUpModel", "keeps", "()V"⟩, 23), (⟨"PushedUpModel", "goesOn", "(II)V"⟩, 23), (⟨"PushedUpModel", "putsBack", "()V"⟩, 23), (⟨"PushedUpModel", "weightsOf", "()I"⟩, 23)]
theorem lw_r4 : ∀ q ∈ lw_privs_4, lw_okq q := List.forall_mem_cons.mpr ⟨lw_p48, List.forall_mem_cons.mpr ⟨lw_p49, List.forall_mem_cons.mpr ⟨lw_p50, List.forall_mem_cons.mpr ⟨lw_p51, List.forall_mem_cons.mpr ⟨lw_p52, List.forall_mem_cons.mpr ⟨lw_p53, List.forall_mem_cons.mpr ⟨lw_p54, List.forall_mem_cons.mpr ⟨lw_p55, List.forall_mem_cons.mpr ⟨lw_p56, List.forall_mem_cons.mpr ⟨lw_p57, List.forall_mem_cons.mpr ⟨lw_p58, List.forall_mem_cons.mpr ⟨lw_p59, List.forall_mem_cons.mpr ⟨lw_p60, List.forall_mem_cons.mpr ⟨lw_p61, List.forall_mem_cons.mpr ⟨lw_p62, List.forall_mem_cons.mpr ⟨lw_p63, fun _ h => absurd h List.not_mem_nil⟩⟩⟩⟩⟩⟩⟩⟩⟩⟩⟩⟩⟩⟩⟩⟩
theorem lw_p64 : lw_okq (⟨"PushedUpModel", "canFrom", "(II)I"⟩, 23) := ⟨⟨by decide +kernel, by decide +kernel⟩, List.mem_of_getElem? (i := 606) (by decide +kernel), List.mem_of_getElem? (i := 935) (by decide +kernel), List.mem_of_getElem? (i := 936) (by decide +kernel)⟩
def lw_privs_5 : List (MethodName × Nat) := [(⟨"PushedUpModel", "canFrom", "(II)I"⟩, 23)]
theorem lw_r5 : ∀ q ∈ lw_privs_5, lw_okq q := List.forall_mem_cons.mpr ⟨lw_p64, fun _ h => absurd h List.not_mem_nil⟩
def lw_privs : List (MethodName × Nat) := lw_privs_1 ++ (lw_privs_2 ++ (lw_privs_3 ++ (lw_privs_4 ++ (lw_privs_5))))
def lw_tbl : List Cond := k2_sels lw_privs ++ tables_1
theorem lw_privs_ok : ∀ q ∈ lw_privs, lw_okq q := by
  show ∀ q ∈ lw_privs_1 ++ (lw_privs_2 ++ (lw_privs_3 ++ (lw_privs_4 ++ (lw_privs_5)))), lw_okq q
  exact List.forall_mem_append.mpr ⟨lw_r1, List.forall_mem_append.mpr ⟨lw_r2, List.forall_mem_append.mpr ⟨lw_r3, List.forall_mem_append.mpr ⟨lw_r4, lw_r5⟩⟩⟩⟩
end
section
/-! names, fields, tables of the classes (from the printed names) -/
def RX0 : String := "PushedUp$Day"
def TX0 : u_T := fun k => match k with
  | 0 => ("PushedUp$Day", "hill", "LPushedUp$Hill;", true)
  | 1 => ("PushedUp$Day", "begun", "[I", true)
  | 2 => ("PushedUp$Day", "comingsDown", "I", false)
  | 3 => ("PushedUp$Day", "traffic", "LPushedUp$Traffic;", true)
  | 4 => ("PushedUp$Day", "kinds", "[I", true)
  | _ => ("PushedUp$Day", "turns", "[I", true)
def tyX0 : Nat → FieldType := fun k => match k with
  | 0 => .object "PushedUp$Hill"
  | 1 => .array .int
  | 2 => .int
  | 3 => .object "PushedUp$Traffic"
  | 4 => .array .int
  | _ => .array .int
abbrev wsX00 : List Cond := u_ws RX0 TX0 6
theorem nmX0 : ∀ a, a < 6 → ∀ b, b < 6 → a ≠ b → (TX0 a).2.1 ≠ (TX0 b).2.1 := by decide +kernel
theorem tyX0_ok : ∀ k, k < 6 → parseFieldDescriptor (TX0 k).2.2.1 = some (tyX0 k) := by decide +kernel
abbrev cX0_init : ByteArray := prog_2_method_1_code
def yX0_init : MethodName := ⟨RX0, "<init>", "()V"⟩
abbrev cX0_run : ByteArray := prog_2_method_2_code
def yX0_run : MethodName := ⟨RX0, "run", "()V"⟩
abbrev cX0_waitedByAll : ByteArray := prog_2_method_3_code
def yX0_waitedByAll : MethodName := ⟨RX0, "waitedByAll", "()I"⟩
abbrev cX0_weightBegun : ByteArray := prog_2_method_4_code
def yX0_weightBegun : MethodName := ⟨RX0, "weightBegun", "()I"⟩
abbrev cX0_trainsBegun : ByteArray := prog_2_method_5_code
def yX0_trainsBegun : MethodName := ⟨RX0, "trainsBegun", "()I"⟩
abbrev cX0_start : ByteArray := prog_2_method_6_code
def yX0_start : MethodName := ⟨RX0, "start", "()V"⟩
abbrev cX0_findTurns : ByteArray := prog_2_method_7_code
def yX0_findTurns : MethodName := ⟨RX0, "findTurns", "()V"⟩
abbrev cX0_beginOne : ByteArray := prog_2_method_8_code
def yX0_beginOne : MethodName := ⟨RX0, "beginOne", "(I)Z"⟩
abbrev cX0_hangs : ByteArray := prog_2_method_9_code
def yX0_hangs : MethodName := ⟨RX0, "hangs", "(I)Z"⟩
abbrev cX0_someWaits : ByteArray := prog_2_method_10_code
def yX0_someWaits : MethodName := ⟨RX0, "someWaits", "(I)Z"⟩
abbrev cX0_firstThatCan : ByteArray := prog_2_method_11_code
def yX0_firstThatCan : MethodName := ⟨RX0, "firstThatCan", "(I)I"⟩
abbrev cX0_isToCome : ByteArray := prog_2_method_12_code
def yX0_isToCome : MethodName := ⟨RX0, "isToCome", "(I)Z"⟩
abbrev cX0_canFrom : ByteArray := prog_2_method_13_code
def yX0_canFrom : MethodName := ⟨RX0, "canFrom", "(I)I"⟩
abbrev cX0_isBefore : ByteArray := prog_2_method_14_code
def yX0_isBefore : MethodName := ⟨RX0, "isBefore", "(II)Z"⟩
abbrev cX0_nextChance : ByteArray := prog_2_method_15_code
def yX0_nextChance : MethodName := ⟨RX0, "nextChance", "(I)I"⟩
def RX1 : String := "PushedUp$Hill"
def TX1 : u_T := fun k => match k with
  | 0 => ("PushedUp$Hill", "pieces", "I", false)
  | 1 => ("PushedUp$Hill", "minutes", "[I", true)
  | 2 => ("PushedUp$Hill", "doubled", "[I", true)
  | 3 => ("PushedUp$Hill", "trains", "I", false)
  | 4 => ("PushedUp$Hill", "comes", "[I", true)
  | 5 => ("PushedUp$Hill", "weights", "[I", true)
  | 6 => ("PushedUp$Hill", "engines", "I", false)
  | 7 => ("PushedUp$Hill", "settings", "[I", true)
  | 8 => ("PushedUp$Hill", "ordered", "I", false)
  | _ => ("PushedUp$Hill", "inOrder", "[I", true)
def tyX1 : Nat → FieldType := fun k => match k with
  | 0 => .int
  | 1 => .array .int
  | 2 => .array .int
  | 3 => .int
  | 4 => .array .int
  | 5 => .array .int
  | 6 => .int
  | 7 => .array .int
  | 8 => .int
  | _ => .array .int
abbrev wsX10 : List Cond := u_ws RX1 TX1 10
theorem nmX1 : ∀ a, a < 10 → ∀ b, b < 10 → a ≠ b → (TX1 a).2.1 ≠ (TX1 b).2.1 := by decide +kernel
theorem tyX1_ok : ∀ k, k < 10 → parseFieldDescriptor (TX1 k).2.2.1 = some (tyX1 k) := by decide +kernel
abbrev cX1_init : ByteArray := prog_3_method_1_code
def yX1_init : MethodName := ⟨RX1, "<init>", "()V"⟩
abbrev cX1_copyFrom : ByteArray := prog_3_method_2_code
def yX1_copyFrom : MethodName := ⟨RX1, "copyFrom", "(LPushedUp$Hill;)V"⟩
abbrev cX1_hasPiece : ByteArray := prog_3_method_3_code
def yX1_hasPiece : MethodName := ⟨RX1, "hasPiece", "(I)Z"⟩
abbrev cX1_hasTrain : ByteArray := prog_3_method_4_code
def yX1_hasTrain : MethodName := ⟨RX1, "hasTrain", "(I)Z"⟩
abbrev cX1_addPiece : ByteArray := prog_3_method_5_code
def yX1_addPiece : MethodName := ⟨RX1, "addPiece", "(II)Z"⟩
abbrev cX1_addTrain : ByteArray := prog_3_method_6_code
def yX1_addTrain : MethodName := ⟨RX1, "addTrain", "(II)Z"⟩
abbrev cX1_putEngines : ByteArray := prog_3_method_7_code
def yX1_putEngines : MethodName := ⟨RX1, "putEngines", "(I)Z"⟩
abbrev cX1_makeAllWeigh : ByteArray := prog_3_method_8_code
def yX1_makeAllWeigh : MethodName := ⟨RX1, "makeAllWeigh", "(I)V"⟩
abbrev cX1_baseMinutes : ByteArray := prog_3_method_9_code
def yX1_baseMinutes : MethodName := ⟨RX1, "baseMinutes", "()I"⟩
abbrev cX1_singles : ByteArray := prog_3_method_10_code
def yX1_singles : MethodName := ⟨RX1, "singles", "()I"⟩
abbrev cX1_onThisRail : ByteArray := prog_3_method_11_code
def yX1_onThisRail : MethodName := ⟨RX1, "onThisRail", "(I)I"⟩
abbrev cX1_kindOf : ByteArray := prog_3_method_12_code
def yX1_kindOf : MethodName := ⟨RX1, "kindOf", "(I)I"⟩
abbrev cX1_climbMinutes : ByteArray := prog_3_method_13_code
def yX1_climbMinutes : MethodName := ⟨RX1, "climbMinutes", "(I)I"⟩
abbrev cX1_areDifferentTrains : ByteArray := prog_3_method_14_code
def yX1_areDifferentTrains : MethodName := ⟨RX1, "areDifferentTrains", "(II)Z"⟩
abbrev cX1_putOrder : ByteArray := prog_3_method_15_code
def yX1_putOrder : MethodName := ⟨RX1, "putOrder", "(II)V"⟩
abbrev cX1_orderByNumber : ByteArray := prog_3_method_16_code
def yX1_orderByNumber : MethodName := ⟨RX1, "orderByNumber", "()V"⟩
abbrev cX1_goToNextOrder : ByteArray := prog_3_method_17_code
def yX1_goToNextOrder : MethodName := ⟨RX1, "goToNextOrder", "()Z"⟩
abbrev cX1_swapInOrder : ByteArray := prog_3_method_18_code
def yX1_swapInOrder : MethodName := ⟨RX1, "swapInOrder", "(II)V"⟩
def RX2 : String := "PushedUp$Row"
def TX2 : u_T := fun k => match k with
  | 0 => ("PushedUp$Row", "size", "I", false)
  | 1 => ("PushedUp$Row", "judged", "I", false)
  | 2 => ("PushedUp$Row", "last", "I", false)
  | 3 => ("PushedUp$Row", "traffic", "LPushedUp$Traffic;", true)
  | 4 => ("PushedUp$Row", "bytes", "[I", true)
  | _ => ("PushedUp$Row", "begun", "I", false)
def tyX2 : Nat → FieldType := fun k => match k with
  | 0 => .int
  | 1 => .int
  | 2 => .int
  | 3 => .object "PushedUp$Traffic"
  | 4 => .array .int
  | _ => .int
abbrev wsX20 : List Cond := u_ws RX2 TX2 6
theorem nmX2 : ∀ a, a < 6 → ∀ b, b < 6 → a ≠ b → (TX2 a).2.1 ≠ (TX2 b).2.1 := by decide +kernel
theorem tyX2_ok : ∀ k, k < 6 → parseFieldDescriptor (TX2 k).2.2.1 = some (tyX2 k) := by decide +kernel
abbrev cX2_init : ByteArray := prog_4_method_1_code
def yX2_init : MethodName := ⟨RX2, "<init>", "()V"⟩
abbrev cX2_add : ByteArray := prog_4_method_2_code
def yX2_add : MethodName := ⟨RX2, "add", "(I)V"⟩
abbrev cX2_lookAt : ByteArray := prog_4_method_3_code
def yX2_lookAt : MethodName := ⟨RX2, "lookAt", "(LPushedUp$Hill;)V"⟩
abbrev cX2_canFrom : ByteArray := prog_4_method_4_code
def yX2_canFrom : MethodName := ⟨RX2, "canFrom", "(LPushedUp$Hill;I)I"⟩
abbrev cX2_begin : ByteArray := prog_4_method_5_code
def yX2_begin : MethodName := ⟨RX2, "begin", "(LPushedUp$Hill;II)V"⟩
def RX3 : String := "PushedUp$Tape"
def TX3 : u_T := fun k => match k with
  | 0 => ("PushedUp$Tape", "size", "I", false)
  | 1 => ("PushedUp$Tape", "bytes", "[I", true)
  | 2 => ("PushedUp$Tape", "at", "I", false)
  | 3 => ("PushedUp$Tape", "isBroken", "Z", false)
  | 4 => ("PushedUp$Tape", "letter", "I", false)
  | 5 => ("PushedUp$Tape", "first", "I", false)
  | _ => ("PushedUp$Tape", "second", "I", false)
def tyX3 : Nat → FieldType := fun k => match k with
  | 0 => .int
  | 1 => .array .int
  | 2 => .int
  | 3 => .boolean
  | 4 => .int
  | 5 => .int
  | _ => .int
abbrev wsX30 : List Cond := u_ws RX3 TX3 7
theorem nmX3 : ∀ a, a < 7 → ∀ b, b < 7 → a ≠ b → (TX3 a).2.1 ≠ (TX3 b).2.1 := by decide +kernel
theorem tyX3_ok : ∀ k, k < 7 → parseFieldDescriptor (TX3 k).2.2.1 = some (tyX3 k) := by decide +kernel
abbrev cX3_init : ByteArray := prog_5_method_1_code
def yX3_init : MethodName := ⟨RX3, "<init>", "()V"⟩
abbrev cX3_hasRoom : ByteArray := prog_5_method_2_code
def yX3_hasRoom : MethodName := ⟨RX3, "hasRoom", "(I)Z"⟩
abbrev cX3_put : ByteArray := prog_5_method_3_code
def yX3_put : MethodName := ⟨RX3, "put", "(IJ)V"⟩
abbrev cX3_readInto : ByteArray := prog_5_method_4_code
def yX3_readInto : MethodName := ⟨RX3, "readInto", "(LPushedUp$Hill;)I"⟩
abbrev cX3_formFault : ByteArray := prog_5_method_5_code
def yX3_formFault : MethodName := ⟨RX3, "formFault", "()I"⟩
abbrev cX3_bring : ByteArray := prog_5_method_6_code
def yX3_bring : MethodName := ⟨RX3, "bring", "(LPushedUp$Hill;)I"⟩
abbrev cX3_bringStatement : ByteArray := prog_5_method_7_code
def yX3_bringStatement : MethodName := ⟨RX3, "bringStatement", "(LPushedUp$Hill;)Z"⟩
abbrev cX3_readStatement : ByteArray := prog_5_method_8_code
def yX3_readStatement : MethodName := ⟨RX3, "readStatement", "()V"⟩
abbrev cX3_look : ByteArray := prog_5_method_9_code
def yX3_look : MethodName := ⟨RX3, "look", "()I"⟩
abbrev cX3_take : ByteArray := prog_5_method_10_code
def yX3_take : MethodName := ⟨RX3, "take", "(Z)V"⟩
abbrev cX3_readNumber : ByteArray := prog_5_method_11_code
def yX3_readNumber : MethodName := ⟨RX3, "readNumber", "(I)I"⟩
def RX4 : String := "PushedUp$Traffic"
def TX4 : u_T := fun k => match k with
  | 0 => ("PushedUp$Traffic", "upFrom", "[I", true)
  | 1 => ("PushedUp$Traffic", "downFrom", "I", false)
  | 2 => ("PushedUp$Traffic", "footFrom", "I", false)
  | 3 => ("PushedUp$Traffic", "climbMinutes", "[I", true)
  | 4 => ("PushedUp$Traffic", "downMinutes", "I", false)
  | 5 => ("PushedUp$Traffic", "headway", "I", false)
  | 6 => ("PushedUp$Traffic", "isSingle", "Z", false)
  | 7 => ("PushedUp$Traffic", "engines", "I", false)
  | 8 => ("PushedUp$Traffic", "standsFrom", "[I", true)
  | 9 => ("PushedUp$Traffic", "isAtTop", "[Z", true)
  | 10 => ("PushedUp$Traffic", "upDone", "I", false)
  | 11 => ("PushedUp$Traffic", "downDone", "I", false)
  | 12 => ("PushedUp$Traffic", "dividedDone", "I", false)
  | 13 => ("PushedUp$Traffic", "upAfterHeadway", "I", false)
  | _ => ("PushedUp$Traffic", "downAfterHeadway", "I", false)
def tyX4 : Nat → FieldType := fun k => match k with
  | 0 => .array .int
  | 1 => .int
  | 2 => .int
  | 3 => .array .int
  | 4 => .int
  | 5 => .int
  | 6 => .boolean
  | 7 => .int
  | 8 => .array .int
  | 9 => .array .boolean
  | 10 => .int
  | 11 => .int
  | 12 => .int
  | 13 => .int
  | _ => .int
abbrev wsX40 : List Cond := u_ws RX4 TX4 15
theorem nmX4 : ∀ a, a < 15 → ∀ b, b < 15 → a ≠ b → (TX4 a).2.1 ≠ (TX4 b).2.1 := by decide +kernel
theorem tyX4_ok : ∀ k, k < 15 → parseFieldDescriptor (TX4 k).2.2.1 = some (tyX4 k) := by decide +kernel
abbrev cX4_init : ByteArray := prog_6_method_1_code
def yX4_init : MethodName := ⟨RX4, "<init>", "()V"⟩
abbrev cX4_start : ByteArray := prog_6_method_2_code
def yX4_start : MethodName := ⟨RX4, "start", "(LPushedUp$Hill;)V"⟩
abbrev cX4_goUp : ByteArray := prog_6_method_3_code
def yX4_goUp : MethodName := ⟨RX4, "goUp", "(II)V"⟩
abbrev cX4_comeDown : ByteArray := prog_6_method_4_code
def yX4_comeDown : MethodName := ⟨RX4, "comeDown", "(I)V"⟩
abbrev cX4_lookAhead : ByteArray := prog_6_method_5_code
def yX4_lookAhead : MethodName := ⟨RX4, "lookAhead", "()V"⟩
abbrev cX4_firstEngine : ByteArray := prog_6_method_6_code
def yX4_firstEngine : MethodName := ⟨RX4, "firstEngine", "(Z)I"⟩
abbrev cX4_moveEngine : ByteArray := prog_6_method_7_code
def yX4_moveEngine : MethodName := ⟨RX4, "moveEngine", "(ZI)V"⟩
def RX5 : String := "PushedUp"
def TX5 : u_T := fun k => match k with
  | 0 => ("PushedUp", "day", "LPushedUp$Day;", true)
  | 1 => ("PushedUp", "hill", "LPushedUp$Hill;", true)
  | 2 => ("PushedUp", "trialDay", "LPushedUp$Day;", true)
  | 3 => ("PushedUp", "trial", "LPushedUp$Hill;", true)
  | 4 => ("PushedUp", "kept", "LPushedUp$Hill;", true)
  | 5 => ("PushedUp", "isKept", "Z", false)
  | 6 => ("PushedUp", "tape", "LPushedUp$Tape;", true)
  | 7 => ("PushedUp", "row", "LPushedUp$Row;", true)
  | 8 => ("PushedUp", "bestOrder", "[I", true)
  | _ => ("PushedUp", "refusals", "[I", true)
def tyX5 : Nat → FieldType := fun k => match k with
  | 0 => .object "PushedUp$Day"
  | 1 => .object "PushedUp$Hill"
  | 2 => .object "PushedUp$Day"
  | 3 => .object "PushedUp$Hill"
  | 4 => .object "PushedUp$Hill"
  | 5 => .boolean
  | 6 => .object "PushedUp$Tape"
  | 7 => .object "PushedUp$Row"
  | 8 => .array .int
  | _ => .array .int
abbrev wsX50 : List Cond := u_ws RX5 TX5 10
theorem nmX5 : ∀ a, a < 10 → ∀ b, b < 10 → a ≠ b → (TX5 a).2.1 ≠ (TX5 b).2.1 := by decide +kernel
theorem tyX5_ok : ∀ k, k < 10 → parseFieldDescriptor (TX5 k).2.2.1 = some (tyX5 k) := by decide +kernel
abbrev cX5_init : ByteArray := prog_1_method_1_code
def yX5_init : MethodName := ⟨RX5, "<init>", "()V"⟩
abbrev cX5_feed : ByteArray := prog_1_method_2_code
def yX5_feed : MethodName := ⟨RX5, "feed", "(IJ)I"⟩
abbrev cX5_line : ByteArray := prog_1_method_3_code
def yX5_line : MethodName := ⟨RX5, "line", "()I"⟩
abbrev cX5_piece : ByteArray := prog_1_method_4_code
def yX5_piece : MethodName := ⟨RX5, "piece", "(II)I"⟩
abbrev cX5_train : ByteArray := prog_1_method_5_code
def yX5_train : MethodName := ⟨RX5, "train", "(II)I"⟩
abbrev cX5_set : ByteArray := prog_1_method_6_code
def yX5_set : MethodName := ⟨RX5, "set", "(II)I"⟩
abbrev cX5_makeDouble : ByteArray := prog_1_method_7_code
def yX5_makeDouble : MethodName := ⟨RX5, "makeDouble", "(IZ)I"⟩
abbrev cX5_order : ByteArray := prog_1_method_8_code
def yX5_order : MethodName := ⟨RX5, "order", "(II)I"⟩
abbrev cX5_climbs : ByteArray := prog_1_method_9_code
def yX5_climbs : MethodName := ⟨RX5, "climbs", "(I)I"⟩
abbrev cX5_takes : ByteArray := prog_1_method_10_code
def yX5_takes : MethodName := ⟨RX5, "takes", "(I)I"⟩
abbrev cX5_base : ByteArray := prog_1_method_11_code
def yX5_base : MethodName := ⟨RX5, "base", "()I"⟩
abbrev cX5_waited : ByteArray := prog_1_method_12_code
def yX5_waited : MethodName := ⟨RX5, "waited", "(I)I"⟩
abbrev cX5_began : ByteArray := prog_1_method_13_code
def yX5_began : MethodName := ⟨RX5, "began", "(I)I"⟩
abbrev cX5_allWaited : ByteArray := prog_1_method_14_code
def yX5_allWaited : MethodName := ⟨RX5, "allWaited", "()I"⟩
abbrev cX5_downs : ByteArray := prog_1_method_15_code
def yX5_downs : MethodName := ⟨RX5, "downs", "()I"⟩
abbrev cX5_best : ByteArray := prog_1_method_16_code
def yX5_best : MethodName := ⟨RX5, "best", "(I)I"⟩
abbrev cX5_fewest : ByteArray := prog_1_method_17_code
def yX5_fewest : MethodName := ⟨RX5, "fewest", "(I)I"⟩
abbrev cX5_which : ByteArray := prog_1_method_18_code
def yX5_which : MethodName := ⟨RX5, "which", "()I"⟩
abbrev cX5_edge : ByteArray := prog_1_method_19_code
def yX5_edge : MethodName := ⟨RX5, "edge", "(I)I"⟩
abbrev cX5_chance : ByteArray := prog_1_method_20_code
def yX5_chance : MethodName := ⟨RX5, "chance", "(I)I"⟩
abbrev cX5_heaviest : ByteArray := prog_1_method_21_code
def yX5_heaviest : MethodName := ⟨RX5, "heaviest", "()I"⟩
abbrev cX5_yard : ByteArray := prog_1_method_22_code
def yX5_yard : MethodName := ⟨RX5, "yard", "()I"⟩
abbrev cX5_row : ByteArray := prog_1_method_23_code
def yX5_row : MethodName := ⟨RX5, "row", "(I)I"⟩
abbrev cX5_judge : ByteArray := prog_1_method_24_code
def yX5_judge : MethodName := ⟨RX5, "judge", "(I)I"⟩
abbrev cX5_image : ByteArray := prog_1_method_25_code
def yX5_image : MethodName := ⟨RX5, "image", "()I"⟩
abbrev cX5_on : ByteArray := prog_1_method_26_code
def yX5_on : MethodName := ⟨RX5, "on", "()I"⟩
abbrev cX5_count : ByteArray := prog_1_method_27_code
def yX5_count : MethodName := ⟨RX5, "count", "(I)I"⟩
abbrev cX5_refuse : ByteArray := prog_1_method_28_code
def yX5_refuse : MethodName := ⟨RX5, "refuse", "(I)I"⟩
abbrev cX5_waitedOnTrial : ByteArray := prog_1_method_29_code
def yX5_waitedOnTrial : MethodName := ⟨RX5, "waitedOnTrial", "()I"⟩
abbrev cX5_findBestOrder : ByteArray := prog_1_method_30_code
def yX5_findBestOrder : MethodName := ⟨RX5, "findBestOrder", "()I"⟩
def RX6 : String := "PushedUpModel"
def TX6 : u_T := fun k => match k with
  | 0 => ("PushedUpModel", "refusals", "[I", true)
  | 1 => ("PushedUpModel", "s", "[I", true)
  | 2 => ("PushedUpModel", "image", "[I", true)
  | 3 => ("PushedUpModel", "read", "[I", true)
  | 4 => ("PushedUpModel", "isImage", "Z", false)
  | 5 => ("PushedUpModel", "tape", "[I", true)
  | 6 => ("PushedUpModel", "told", "[I", true)
  | 7 => ("PushedUpModel", "taped", "I", false)
  | 8 => ("PushedUpModel", "at", "I", false)
  | 9 => ("PushedUpModel", "upEnd", "[I", true)
  | 10 => ("PushedUpModel", "downEnd", "[I", true)
  | 11 => ("PushedUpModel", "began", "[I", true)
  | 12 => ("PushedUpModel", "foot", "I", false)
  | 13 => ("PushedUpModel", "top", "I", false)
  | 14 => ("PushedUpModel", "downs", "I", false)
  | 15 => ("PushedUpModel", "lastUp", "I", false)
  | 16 => ("PushedUpModel", "lastDown", "I", false)
  | 17 => ("PushedUpModel", "dividedEnd", "I", false)
  | 18 => ("PushedUpModel", "kept", "[I", true)
  | 19 => ("PushedUpModel", "bestOrder", "[I", true)
  | 20 => ("PushedUpModel", "bestAll", "I", false)
  | 21 => ("PushedUpModel", "row", "[I", true)
  | _ => ("PushedUpModel", "rowed", "I", false)
def tyX6 : Nat → FieldType := fun k => match k with
  | 0 => .array .int
  | 1 => .array .int
  | 2 => .array .int
  | 3 => .array .int
  | 4 => .boolean
  | 5 => .array .int
  | 6 => .array .int
  | 7 => .int
  | 8 => .int
  | 9 => .array .int
  | 10 => .array .int
  | 11 => .array .int
  | 12 => .int
  | 13 => .int
  | 14 => .int
  | 15 => .int
  | 16 => .int
  | 17 => .int
  | 18 => .array .int
  | 19 => .array .int
  | 20 => .int
  | 21 => .array .int
  | _ => .int
abbrev wsX60 : List Cond := u_ws RX6 TX6 23
theorem nmX6 : ∀ a, a < 23 → ∀ b, b < 23 → a ≠ b → (TX6 a).2.1 ≠ (TX6 b).2.1 := by decide +kernel
theorem tyX6_ok : ∀ k, k < 23 → parseFieldDescriptor (TX6 k).2.2.1 = some (tyX6 k) := by decide +kernel
abbrev cX6_init : ByteArray := prog_8_method_1_code
def yX6_init : MethodName := ⟨RX6, "<init>", "()V"⟩
abbrev cX6_refuse : ByteArray := prog_8_method_2_code
def yX6_refuse : MethodName := ⟨RX6, "refuse", "(I)I"⟩
abbrev cX6_isIn : ByteArray := prog_8_method_3_code
def yX6_isIn : MethodName := ⟨RX6, "isIn", "(II)Z"⟩
abbrev cX6_within : ByteArray := prog_8_method_4_code
def yX6_within : MethodName := ⟨RX6, "within", "(III)I"⟩
abbrev cX6_isPiece : ByteArray := prog_8_method_5_code
def yX6_isPiece : MethodName := ⟨RX6, "isPiece", "(I)Z"⟩
abbrev cX6_isTrain : ByteArray := prog_8_method_6_code
def yX6_isTrain : MethodName := ⟨RX6, "isTrain", "(I)Z"⟩
abbrev cX6_feed : ByteArray := prog_8_method_7_code
def yX6_feed : MethodName := ⟨RX6, "feed", "(IJ)I"⟩
abbrev cX6_sign : ByteArray := prog_8_method_8_code
def yX6_sign : MethodName := ⟨RX6, "sign", "()I"⟩
abbrev cX6_isDigit : ByteArray := prog_8_method_9_code
def yX6_isDigit : MethodName := ⟨RX6, "isDigit", "()Z"⟩
abbrev cX6_takesSign : ByteArray := prog_8_method_10_code
def yX6_takesSign : MethodName := ⟨RX6, "takesSign", "(I)Z"⟩
abbrev cX6_readsNumber : ByteArray := prog_8_method_11_code
def yX6_readsNumber : MethodName := ⟨RX6, "readsNumber", "(II)Z"⟩
abbrev cX6_readsStatement : ByteArray := prog_8_method_12_code
def yX6_readsStatement : MethodName := ⟨RX6, "readsStatement", "()Z"⟩
abbrev cX6_comes : ByteArray := prog_8_method_13_code
def yX6_comes : MethodName := ⟨RX6, "comes", "(I)Z"⟩
abbrev cX6_reads : ByteArray := prog_8_method_14_code
def yX6_reads : MethodName := ⟨RX6, "reads", "()I"⟩
abbrev cX6_line : ByteArray := prog_8_method_15_code
def yX6_line : MethodName := ⟨RX6, "line", "()I"⟩
abbrev cX6_piece : ByteArray := prog_8_method_16_code
def yX6_piece : MethodName := ⟨RX6, "piece", "(II)I"⟩
abbrev cX6_train : ByteArray := prog_8_method_17_code
def yX6_train : MethodName := ⟨RX6, "train", "(II)I"⟩
abbrev cX6_least : ByteArray := prog_8_method_18_code
def yX6_least : MethodName := ⟨RX6, "least", "(I)I"⟩
abbrev cX6_most : ByteArray := prog_8_method_19_code
def yX6_most : MethodName := ⟨RX6, "most", "(I)I"⟩
abbrev cX6_set : ByteArray := prog_8_method_20_code
def yX6_set : MethodName := ⟨RX6, "set", "(II)I"⟩
abbrev cX6_makeDouble : ByteArray := prog_8_method_21_code
def yX6_makeDouble : MethodName := ⟨RX6, "makeDouble", "(IZ)I"⟩
abbrev cX6_order : ByteArray := prog_8_method_22_code
def yX6_order : MethodName := ⟨RX6, "order", "(II)I"⟩
abbrev cX6_edgeBy : ByteArray := prog_8_method_23_code
def yX6_edgeBy : MethodName := ⟨RX6, "edgeBy", "(I)I"⟩
abbrev cX6_kindBy : ByteArray := prog_8_method_24_code
def yX6_kindBy : MethodName := ⟨RX6, "kindBy", "(I)I"⟩
abbrev cX6_weight : ByteArray := prog_8_method_25_code
def yX6_weight : MethodName := ⟨RX6, "weight", "(I)I"⟩
abbrev cX6_comesAt : ByteArray := prog_8_method_26_code
def yX6_comesAt : MethodName := ⟨RX6, "comesAt", "(I)I"⟩
abbrev cX6_kindOf : ByteArray := prog_8_method_27_code
def yX6_kindOf : MethodName := ⟨RX6, "kindOf", "(I)I"⟩
abbrev cX6_climbs : ByteArray := prog_8_method_28_code
def yX6_climbs : MethodName := ⟨RX6, "climbs", "(I)I"⟩
abbrev cX6_baseOf : ByteArray := prog_8_method_29_code
def yX6_baseOf : MethodName := ⟨RX6, "baseOf", "()I"⟩
abbrev cX6_base : ByteArray := prog_8_method_30_code
def yX6_base : MethodName := ⟨RX6, "base", "()I"⟩
abbrev cX6_takesOf : ByteArray := prog_8_method_31_code
def yX6_takesOf : MethodName := ⟨RX6, "takesOf", "(I)I"⟩
abbrev cX6_takes : ByteArray := prog_8_method_32_code
def yX6_takes : MethodName := ⟨RX6, "takes", "(I)I"⟩
abbrev cX6_opens : ByteArray := prog_8_method_33_code
def yX6_opens : MethodName := ⟨RX6, "opens", "()V"⟩
abbrev cX6_ends : ByteArray := prog_8_method_34_code
def yX6_ends : MethodName := ⟨RX6, "ends", "(I)V"⟩
abbrev cX6_isUp : ByteArray := prog_8_method_35_code
def yX6_isUp : MethodName := ⟨RX6, "isUp", "()Z"⟩
abbrev cX6_isDown : ByteArray := prog_8_method_36_code
def yX6_isDown : MethodName := ⟨RX6, "isDown", "()Z"⟩
abbrev cX6_singles : ByteArray := prog_8_method_37_code
def yX6_singles : MethodName := ⟨RX6, "singles", "()I"⟩
abbrev cX6_letsDown : ByteArray := prog_8_method_38_code
def yX6_letsDown : MethodName := ⟨RX6, "letsDown", "(I)Z"⟩
abbrev cX6_letsUp : ByteArray := prog_8_method_39_code
def yX6_letsUp : MethodName := ⟨RX6, "letsUp", "(II)Z"⟩
abbrev cX6_goesDown : ByteArray := prog_8_method_40_code
def yX6_goesDown : MethodName := ⟨RX6, "goesDown", "(I)V"⟩
abbrev cX6_goesUp : ByteArray := prog_8_method_41_code
def yX6_goesUp : MethodName := ⟨RX6, "goesUp", "(II)V"⟩
abbrev cX6_hasEngine : ByteArray := prog_8_method_42_code
def yX6_hasEngine : MethodName := ⟨RX6, "hasEngine", "(I)Z"⟩
abbrev cX6_waits : ByteArray := prog_8_method_43_code
def yX6_waits : MethodName := ⟨RX6, "waits", "(II)Z"⟩
abbrev cX6_placeIn : ByteArray := prog_8_method_44_code
def yX6_placeIn : MethodName := ⟨RX6, "placeIn", "(I)I"⟩
abbrev cX6_isAhead : ByteArray := prog_8_method_45_code
def yX6_isAhead : MethodName := ⟨RX6, "isAhead", "(II)Z"⟩
abbrev cX6_minute : ByteArray := prog_8_method_46_code
def yX6_minute : MethodName := ⟨RX6, "minute", "(I)V"⟩
abbrev cX6_day : ByteArray := prog_8_method_47_code
def yX6_day : MethodName := ⟨RX6, "day", "()V"⟩
abbrev cX6_waited : ByteArray := prog_8_method_48_code
def yX6_waited : MethodName := ⟨RX6, "waited", "(I)I"⟩
abbrev cX6_began : ByteArray := prog_8_method_49_code
def yX6_began : MethodName := ⟨RX6, "began", "(I)I"⟩
abbrev cX6_allOf : ByteArray := prog_8_method_50_code
def yX6_allOf : MethodName := ⟨RX6, "allOf", "()I"⟩
abbrev cX6_allWaited : ByteArray := prog_8_method_51_code
def yX6_allWaited : MethodName := ⟨RX6, "allWaited", "()I"⟩
abbrev cX6_downs : ByteArray := prog_8_method_52_code
def yX6_downs : MethodName := ⟨RX6, "downs", "()I"⟩
abbrev cX6_keeps : ByteArray := prog_8_method_53_code
def yX6_keeps : MethodName := ⟨RX6, "keeps", "()V"⟩
abbrev cX6_putsBack : ByteArray := prog_8_method_54_code
def yX6_putsBack : MethodName := ⟨RX6, "putsBack", "()V"⟩
abbrev cX6_goesOn : ByteArray := prog_8_method_55_code
def yX6_goesOn : MethodName := ⟨RX6, "goesOn", "(II)V"⟩
abbrev cX6_best : ByteArray := prog_8_method_56_code
def yX6_best : MethodName := ⟨RX6, "best", "(I)I"⟩
abbrev cX6_fewest : ByteArray := prog_8_method_57_code
def yX6_fewest : MethodName := ⟨RX6, "fewest", "(I)I"⟩
abbrev cX6_which : ByteArray := prog_8_method_58_code
def yX6_which : MethodName := ⟨RX6, "which", "()I"⟩
abbrev cX6_edge : ByteArray := prog_8_method_59_code
def yX6_edge : MethodName := ⟨RX6, "edge", "(I)I"⟩
abbrev cX6_chance : ByteArray := prog_8_method_60_code
def yX6_chance : MethodName := ⟨RX6, "chance", "(I)I"⟩
abbrev cX6_weightsOf : ByteArray := prog_8_method_61_code
def yX6_weightsOf : MethodName := ⟨RX6, "weightsOf", "()I"⟩
abbrev cX6_heaviest : ByteArray := prog_8_method_62_code
def yX6_heaviest : MethodName := ⟨RX6, "heaviest", "()I"⟩
abbrev cX6_yard : ByteArray := prog_8_method_63_code
def yX6_yard : MethodName := ⟨RX6, "yard", "()I"⟩
abbrev cX6_row : ByteArray := prog_8_method_64_code
def yX6_row : MethodName := ⟨RX6, "row", "(I)I"⟩
abbrev cX6_canFrom : ByteArray := prog_8_method_65_code
def yX6_canFrom : MethodName := ⟨RX6, "canFrom", "(II)I"⟩
abbrev cX6_judge : ByteArray := prog_8_method_66_code
def yX6_judge : MethodName := ⟨RX6, "judge", "(I)I"⟩
abbrev cX6_image : ByteArray := prog_8_method_67_code
def yX6_image : MethodName := ⟨RX6, "image", "()I"⟩
abbrev cX6_on : ByteArray := prog_8_method_68_code
def yX6_on : MethodName := ⟨RX6, "on", "()I"⟩
abbrev cX6_count : ByteArray := prog_8_method_69_code
def yX6_count : MethodName := ⟨RX6, "count", "(I)I"⟩
def RL : String := "PushedUpLaw"
abbrev cL_law : ByteArray := code
def yL_law : MethodName := ⟨RL, "law", "([I)Z"⟩
abbrev vwCl : List vw_C := [(RX0, TX0, 6), (RX1, TX1, 10), (RX2, TX2, 6), (RX3, TX3, 7), (RX4, TX4, 15), (RX5, TX5, 10), (RX6, TX6, 23)]
end
section
/-! the words of the links, by their places in the tables -/
theorem ml_X5_refuse : Cond.selects RX5 yX5_refuse yX5_refuse ∈ lw_tbl := List.mem_of_getElem? (i := 0) (by decide +kernel)
theorem ml_X3_formFault : Cond.selects RX3 yX3_formFault yX3_formFault ∈ lw_tbl := List.mem_of_getElem? (i := 1) (by decide +kernel)
theorem ml_X3_readStatement : Cond.selects RX3 yX3_readStatement yX3_readStatement ∈ lw_tbl := List.mem_of_getElem? (i := 2) (by decide +kernel)
theorem ml_X3_look : Cond.selects RX3 yX3_look yX3_look ∈ lw_tbl := List.mem_of_getElem? (i := 3) (by decide +kernel)
theorem ml_X3_readNumber : Cond.selects RX3 yX3_readNumber yX3_readNumber ∈ lw_tbl := List.mem_of_getElem? (i := 4) (by decide +kernel)
theorem ml_X3_take : Cond.selects RX3 yX3_take yX3_take ∈ lw_tbl := List.mem_of_getElem? (i := 5) (by decide +kernel)
theorem ml_X3_bring : Cond.selects RX3 yX3_bring yX3_bring ∈ lw_tbl := List.mem_of_getElem? (i := 6) (by decide +kernel)
theorem ml_X3_bringStatement : Cond.selects RX3 yX3_bringStatement yX3_bringStatement ∈ lw_tbl := List.mem_of_getElem? (i := 7) (by decide +kernel)
theorem ml_X1_onThisRail : Cond.selects RX1 yX1_onThisRail yX1_onThisRail ∈ lw_tbl := List.mem_of_getElem? (i := 8) (by decide +kernel)
theorem ml_X0_start : Cond.selects RX0 yX0_start yX0_start ∈ lw_tbl := List.mem_of_getElem? (i := 9) (by decide +kernel)
theorem ml_X4_lookAhead : Cond.selects RX4 yX4_lookAhead yX4_lookAhead ∈ lw_tbl := List.mem_of_getElem? (i := 10) (by decide +kernel)
theorem ml_X4_firstEngine : Cond.selects RX4 yX4_firstEngine yX4_firstEngine ∈ lw_tbl := List.mem_of_getElem? (i := 11) (by decide +kernel)
theorem ml_X0_findTurns : Cond.selects RX0 yX0_findTurns yX0_findTurns ∈ lw_tbl := List.mem_of_getElem? (i := 12) (by decide +kernel)
theorem ml_X0_beginOne : Cond.selects RX0 yX0_beginOne yX0_beginOne ∈ lw_tbl := List.mem_of_getElem? (i := 13) (by decide +kernel)
theorem ml_X0_hangs : Cond.selects RX0 yX0_hangs yX0_hangs ∈ lw_tbl := List.mem_of_getElem? (i := 14) (by decide +kernel)
theorem ml_X0_someWaits : Cond.selects RX0 yX0_someWaits yX0_someWaits ∈ lw_tbl := List.mem_of_getElem? (i := 15) (by decide +kernel)
theorem ml_X0_isToCome : Cond.selects RX0 yX0_isToCome yX0_isToCome ∈ lw_tbl := List.mem_of_getElem? (i := 16) (by decide +kernel)
theorem ml_X4_moveEngine : Cond.selects RX4 yX4_moveEngine yX4_moveEngine ∈ lw_tbl := List.mem_of_getElem? (i := 17) (by decide +kernel)
theorem ml_X0_firstThatCan : Cond.selects RX0 yX0_firstThatCan yX0_firstThatCan ∈ lw_tbl := List.mem_of_getElem? (i := 18) (by decide +kernel)
theorem ml_X0_canFrom : Cond.selects RX0 yX0_canFrom yX0_canFrom ∈ lw_tbl := List.mem_of_getElem? (i := 19) (by decide +kernel)
theorem ml_X0_isBefore : Cond.selects RX0 yX0_isBefore yX0_isBefore ∈ lw_tbl := List.mem_of_getElem? (i := 20) (by decide +kernel)
theorem ml_X0_nextChance : Cond.selects RX0 yX0_nextChance yX0_nextChance ∈ lw_tbl := List.mem_of_getElem? (i := 21) (by decide +kernel)
theorem ml_X5_findBestOrder : Cond.selects RX5 yX5_findBestOrder yX5_findBestOrder ∈ lw_tbl := List.mem_of_getElem? (i := 22) (by decide +kernel)
theorem ml_X5_waitedOnTrial : Cond.selects RX5 yX5_waitedOnTrial yX5_waitedOnTrial ∈ lw_tbl := List.mem_of_getElem? (i := 23) (by decide +kernel)
theorem ml_X1_swapInOrder : Cond.selects RX1 yX1_swapInOrder yX1_swapInOrder ∈ lw_tbl := List.mem_of_getElem? (i := 24) (by decide +kernel)
theorem ml_X2_canFrom : Cond.selects RX2 yX2_canFrom yX2_canFrom ∈ lw_tbl := List.mem_of_getElem? (i := 25) (by decide +kernel)
theorem ml_X2_begin : Cond.selects RX2 yX2_begin yX2_begin ∈ lw_tbl := List.mem_of_getElem? (i := 26) (by decide +kernel)
theorem ml_X6_refuse : Cond.selects RX6 yX6_refuse yX6_refuse ∈ lw_tbl := List.mem_of_getElem? (i := 27) (by decide +kernel)
theorem ml_X6_reads : Cond.selects RX6 yX6_reads yX6_reads ∈ lw_tbl := List.mem_of_getElem? (i := 28) (by decide +kernel)
theorem ml_X6_readsStatement : Cond.selects RX6 yX6_readsStatement yX6_readsStatement ∈ lw_tbl := List.mem_of_getElem? (i := 29) (by decide +kernel)
theorem ml_X6_sign : Cond.selects RX6 yX6_sign yX6_sign ∈ lw_tbl := List.mem_of_getElem? (i := 30) (by decide +kernel)
theorem ml_X6_readsNumber : Cond.selects RX6 yX6_readsNumber yX6_readsNumber ∈ lw_tbl := List.mem_of_getElem? (i := 31) (by decide +kernel)
theorem ml_X6_isDigit : Cond.selects RX6 yX6_isDigit yX6_isDigit ∈ lw_tbl := List.mem_of_getElem? (i := 32) (by decide +kernel)
theorem ml_X6_takesSign : Cond.selects RX6 yX6_takesSign yX6_takesSign ∈ lw_tbl := List.mem_of_getElem? (i := 33) (by decide +kernel)
theorem ml_X6_comes : Cond.selects RX6 yX6_comes yX6_comes ∈ lw_tbl := List.mem_of_getElem? (i := 34) (by decide +kernel)
theorem ml_X6_isPiece : Cond.selects RX6 yX6_isPiece yX6_isPiece ∈ lw_tbl := List.mem_of_getElem? (i := 35) (by decide +kernel)
theorem ml_X6_isTrain : Cond.selects RX6 yX6_isTrain yX6_isTrain ∈ lw_tbl := List.mem_of_getElem? (i := 36) (by decide +kernel)
theorem ml_X6_kindOf : Cond.selects RX6 yX6_kindOf yX6_kindOf ∈ lw_tbl := List.mem_of_getElem? (i := 37) (by decide +kernel)
theorem ml_X6_weight : Cond.selects RX6 yX6_weight yX6_weight ∈ lw_tbl := List.mem_of_getElem? (i := 38) (by decide +kernel)
theorem ml_X6_kindBy : Cond.selects RX6 yX6_kindBy yX6_kindBy ∈ lw_tbl := List.mem_of_getElem? (i := 39) (by decide +kernel)
theorem ml_X6_edgeBy : Cond.selects RX6 yX6_edgeBy yX6_edgeBy ∈ lw_tbl := List.mem_of_getElem? (i := 40) (by decide +kernel)
theorem ml_X6_baseOf : Cond.selects RX6 yX6_baseOf yX6_baseOf ∈ lw_tbl := List.mem_of_getElem? (i := 41) (by decide +kernel)
theorem ml_X6_takesOf : Cond.selects RX6 yX6_takesOf yX6_takesOf ∈ lw_tbl := List.mem_of_getElem? (i := 42) (by decide +kernel)
theorem ml_X6_day : Cond.selects RX6 yX6_day yX6_day ∈ lw_tbl := List.mem_of_getElem? (i := 43) (by decide +kernel)
theorem ml_X6_opens : Cond.selects RX6 yX6_opens yX6_opens ∈ lw_tbl := List.mem_of_getElem? (i := 44) (by decide +kernel)
theorem ml_X6_minute : Cond.selects RX6 yX6_minute yX6_minute ∈ lw_tbl := List.mem_of_getElem? (i := 45) (by decide +kernel)
theorem ml_X6_ends : Cond.selects RX6 yX6_ends yX6_ends ∈ lw_tbl := List.mem_of_getElem? (i := 46) (by decide +kernel)
theorem ml_X6_waits : Cond.selects RX6 yX6_waits yX6_waits ∈ lw_tbl := List.mem_of_getElem? (i := 47) (by decide +kernel)
theorem ml_X6_comesAt : Cond.selects RX6 yX6_comesAt yX6_comesAt ∈ lw_tbl := List.mem_of_getElem? (i := 48) (by decide +kernel)
theorem ml_X6_letsDown : Cond.selects RX6 yX6_letsDown yX6_letsDown ∈ lw_tbl := List.mem_of_getElem? (i := 49) (by decide +kernel)
theorem ml_X6_singles : Cond.selects RX6 yX6_singles yX6_singles ∈ lw_tbl := List.mem_of_getElem? (i := 50) (by decide +kernel)
theorem ml_X6_isUp : Cond.selects RX6 yX6_isUp yX6_isUp ∈ lw_tbl := List.mem_of_getElem? (i := 51) (by decide +kernel)
theorem ml_X6_goesDown : Cond.selects RX6 yX6_goesDown yX6_goesDown ∈ lw_tbl := List.mem_of_getElem? (i := 52) (by decide +kernel)
theorem ml_X6_hasEngine : Cond.selects RX6 yX6_hasEngine yX6_hasEngine ∈ lw_tbl := List.mem_of_getElem? (i := 53) (by decide +kernel)
theorem ml_X6_letsUp : Cond.selects RX6 yX6_letsUp yX6_letsUp ∈ lw_tbl := List.mem_of_getElem? (i := 54) (by decide +kernel)
theorem ml_X6_isDown : Cond.selects RX6 yX6_isDown yX6_isDown ∈ lw_tbl := List.mem_of_getElem? (i := 55) (by decide +kernel)
theorem ml_X6_isAhead : Cond.selects RX6 yX6_isAhead yX6_isAhead ∈ lw_tbl := List.mem_of_getElem? (i := 56) (by decide +kernel)
theorem ml_X6_placeIn : Cond.selects RX6 yX6_placeIn yX6_placeIn ∈ lw_tbl := List.mem_of_getElem? (i := 57) (by decide +kernel)
theorem ml_X6_goesUp : Cond.selects RX6 yX6_goesUp yX6_goesUp ∈ lw_tbl := List.mem_of_getElem? (i := 58) (by decide +kernel)
theorem ml_X6_allOf : Cond.selects RX6 yX6_allOf yX6_allOf ∈ lw_tbl := List.mem_of_getElem? (i := 59) (by decide +kernel)
theorem ml_X6_keeps : Cond.selects RX6 yX6_keeps yX6_keeps ∈ lw_tbl := List.mem_of_getElem? (i := 60) (by decide +kernel)
theorem ml_X6_goesOn : Cond.selects RX6 yX6_goesOn yX6_goesOn ∈ lw_tbl := List.mem_of_getElem? (i := 61) (by decide +kernel)
theorem ml_X6_putsBack : Cond.selects RX6 yX6_putsBack yX6_putsBack ∈ lw_tbl := List.mem_of_getElem? (i := 62) (by decide +kernel)
theorem ml_X6_weightsOf : Cond.selects RX6 yX6_weightsOf yX6_weightsOf ∈ lw_tbl := List.mem_of_getElem? (i := 63) (by decide +kernel)
theorem ml_X6_canFrom : Cond.selects RX6 yX6_canFrom yX6_canFrom ∈ lw_tbl := List.mem_of_getElem? (i := 64) (by decide +kernel)
theorem in_RL : Cond.initialized RL ∈ lw_tbl := List.mem_of_getElem? (i := 65) (by decide +kernel)
theorem in_RX5 : Cond.initialized RX5 ∈ lw_tbl := List.mem_of_getElem? (i := 66) (by decide +kernel)
theorem in_RX0 : Cond.initialized RX0 ∈ lw_tbl := List.mem_of_getElem? (i := 67) (by decide +kernel)
theorem in_RX1 : Cond.initialized RX1 ∈ lw_tbl := List.mem_of_getElem? (i := 68) (by decide +kernel)
theorem in_RX4 : Cond.initialized RX4 ∈ lw_tbl := List.mem_of_getElem? (i := 69) (by decide +kernel)
theorem in_RX3 : Cond.initialized RX3 ∈ lw_tbl := List.mem_of_getElem? (i := 70) (by decide +kernel)
theorem in_RX2 : Cond.initialized RX2 ∈ lw_tbl := List.mem_of_getElem? (i := 71) (by decide +kernel)
theorem in_RX6 : Cond.initialized RX6 ∈ lw_tbl := List.mem_of_getElem? (i := 72) (by decide +kernel)
theorem in_System : Cond.initialized "java/lang/System" ∈ lw_tbl := List.mem_of_getElem? (i := 73) (by decide +kernel)
theorem in_Math : Cond.initialized "java/lang/Math" ∈ lw_tbl := List.mem_of_getElem? (i := 74) (by decide +kernel)
theorem cl_RL_7 : Cond.classLink RL 7 RX5 ∈ lw_tbl := List.mem_of_getElem? (i := 75) (by decide +kernel)
theorem it_RX5 : Cond.instantiable RX5 10 ∈ lw_tbl := List.mem_of_getElem? (i := 76) (by decide +kernel)
theorem lk_RL_9 : Cond.methodLink RL 9 yX5_init ∈ lw_tbl := List.mem_of_getElem? (i := 77) (by decide +kernel)
theorem mi_X5_init : Cond.instanceMethod yX5_init ∈ lw_tbl := List.mem_of_getElem? (i := 78) (by decide +kernel)
theorem mc_X5_init : Cond.code yX5_init cX5_init 1 none ∈ lw_tbl := List.mem_of_getElem? (i := 79) (by decide +kernel)
theorem lk_RX5_1 : Cond.methodLink RX5 1 objectInit ∈ lw_tbl := List.mem_of_getElem? (i := 80) (by decide +kernel)
theorem cl_RX5_7 : Cond.classLink RX5 7 RX0 ∈ lw_tbl := List.mem_of_getElem? (i := 83) (by decide +kernel)
theorem it_RX0 : Cond.instantiable RX0 6 ∈ lw_tbl := List.mem_of_getElem? (i := 84) (by decide +kernel)
theorem lk_RX5_9 : Cond.methodLink RX5 9 yX0_init ∈ lw_tbl := List.mem_of_getElem? (i := 85) (by decide +kernel)
theorem mi_X0_init : Cond.instanceMethod yX0_init ∈ lw_tbl := List.mem_of_getElem? (i := 86) (by decide +kernel)
theorem mc_X0_init : Cond.code yX0_init cX0_init 1 none ∈ lw_tbl := List.mem_of_getElem? (i := 87) (by decide +kernel)
theorem lk_RX0_3 : Cond.methodLink RX0 3 objectInit ∈ lw_tbl := List.mem_of_getElem? (i := 88) (by decide +kernel)
theorem cl_RX0_9 : Cond.classLink RX0 9 RX1 ∈ lw_tbl := List.mem_of_getElem? (i := 89) (by decide +kernel)
theorem it_RX1 : Cond.instantiable RX1 10 ∈ lw_tbl := List.mem_of_getElem? (i := 90) (by decide +kernel)
theorem lk_RX0_11 : Cond.methodLink RX0 11 yX1_init ∈ lw_tbl := List.mem_of_getElem? (i := 91) (by decide +kernel)
theorem mi_X1_init : Cond.instanceMethod yX1_init ∈ lw_tbl := List.mem_of_getElem? (i := 92) (by decide +kernel)
theorem mc_X1_init : Cond.code yX1_init cX1_init 1 none ∈ lw_tbl := List.mem_of_getElem? (i := 93) (by decide +kernel)
theorem lk_RX1_3 : Cond.methodLink RX1 3 objectInit ∈ lw_tbl := List.mem_of_getElem? (i := 94) (by decide +kernel)
theorem fk_RX1_30 : Cond.fieldLink RX1 30 RX1 (TX1 0).2.1 (TX1 0).2.2.1 ∈ lw_tbl := List.mem_of_getElem? (i := 95) (by decide +kernel)
theorem fk_RX5_150 : Cond.fieldLink RX5 150 RX1 (TX1 0).2.1 (TX1 0).2.2.1 ∈ lw_tbl := List.mem_of_getElem? (i := 96) (by decide +kernel)
theorem fk_RX1_9 : Cond.fieldLink RX1 9 RX1 (TX1 1).2.1 (TX1 1).2.2.1 ∈ lw_tbl := List.mem_of_getElem? (i := 97) (by decide +kernel)
theorem fk_RX5_81 : Cond.fieldLink RX5 81 RX1 (TX1 1).2.1 (TX1 1).2.2.1 ∈ lw_tbl := List.mem_of_getElem? (i := 98) (by decide +kernel)
theorem fk_RX1_15 : Cond.fieldLink RX1 15 RX1 (TX1 2).2.1 (TX1 2).2.2.1 ∈ lw_tbl := List.mem_of_getElem? (i := 99) (by decide +kernel)
theorem fk_RX5_84 : Cond.fieldLink RX5 84 RX1 (TX1 2).2.1 (TX1 2).2.2.1 ∈ lw_tbl := List.mem_of_getElem? (i := 100) (by decide +kernel)
theorem fk_RX1_40 : Cond.fieldLink RX1 40 RX1 (TX1 3).2.1 (TX1 3).2.2.1 ∈ lw_tbl := List.mem_of_getElem? (i := 101) (by decide +kernel)
theorem fk_RX0_46 : Cond.fieldLink RX0 46 RX1 (TX1 3).2.1 (TX1 3).2.2.1 ∈ lw_tbl := List.mem_of_getElem? (i := 102) (by decide +kernel)
theorem fk_RX5_138 : Cond.fieldLink RX5 138 RX1 (TX1 3).2.1 (TX1 3).2.2.1 ∈ lw_tbl := List.mem_of_getElem? (i := 103) (by decide +kernel)
theorem fk_RX1_18 : Cond.fieldLink RX1 18 RX1 (TX1 4).2.1 (TX1 4).2.2.1 ∈ lw_tbl := List.mem_of_getElem? (i := 104) (by decide +kernel)
theorem fk_RX0_50 : Cond.fieldLink RX0 50 RX1 (TX1 4).2.1 (TX1 4).2.2.1 ∈ lw_tbl := List.mem_of_getElem? (i := 105) (by decide +kernel)
theorem fk_RX2_70 : Cond.fieldLink RX2 70 RX1 (TX1 4).2.1 (TX1 4).2.2.1 ∈ lw_tbl := List.mem_of_getElem? (i := 106) (by decide +kernel)
theorem fk_RX5_90 : Cond.fieldLink RX5 90 RX1 (TX1 4).2.1 (TX1 4).2.2.1 ∈ lw_tbl := List.mem_of_getElem? (i := 107) (by decide +kernel)
theorem fk_RX1_21 : Cond.fieldLink RX1 21 RX1 (TX1 5).2.1 (TX1 5).2.2.1 ∈ lw_tbl := List.mem_of_getElem? (i := 108) (by decide +kernel)
theorem fk_RX0_53 : Cond.fieldLink RX0 53 RX1 (TX1 5).2.1 (TX1 5).2.2.1 ∈ lw_tbl := List.mem_of_getElem? (i := 109) (by decide +kernel)
theorem fk_RX2_63 : Cond.fieldLink RX2 63 RX1 (TX1 5).2.1 (TX1 5).2.2.1 ∈ lw_tbl := List.mem_of_getElem? (i := 110) (by decide +kernel)
theorem fk_RX5_93 : Cond.fieldLink RX5 93 RX1 (TX1 5).2.1 (TX1 5).2.2.1 ∈ lw_tbl := List.mem_of_getElem? (i := 111) (by decide +kernel)
theorem fk_RX4_51 : Cond.fieldLink RX4 51 RX1 (TX1 6).2.1 (TX1 6).2.2.1 ∈ lw_tbl := List.mem_of_getElem? (i := 112) (by decide +kernel)
theorem fk_RX1_43 : Cond.fieldLink RX1 43 RX1 (TX1 6).2.1 (TX1 6).2.2.1 ∈ lw_tbl := List.mem_of_getElem? (i := 113) (by decide +kernel)
theorem fk_RX5_144 : Cond.fieldLink RX5 144 RX1 (TX1 6).2.1 (TX1 6).2.2.1 ∈ lw_tbl := List.mem_of_getElem? (i := 114) (by decide +kernel)
theorem fk_RX1_24 : Cond.fieldLink RX1 24 RX1 (TX1 7).2.1 (TX1 7).2.2.1 ∈ lw_tbl := List.mem_of_getElem? (i := 115) (by decide +kernel)
theorem fk_RX4_38 : Cond.fieldLink RX4 38 RX1 (TX1 7).2.1 (TX1 7).2.2.1 ∈ lw_tbl := List.mem_of_getElem? (i := 116) (by decide +kernel)
theorem fk_RX5_102 : Cond.fieldLink RX5 102 RX1 (TX1 7).2.1 (TX1 7).2.2.1 ∈ lw_tbl := List.mem_of_getElem? (i := 117) (by decide +kernel)
theorem fk_RX0_68 : Cond.fieldLink RX0 68 RX1 (TX1 7).2.1 (TX1 7).2.2.1 ∈ lw_tbl := List.mem_of_getElem? (i := 118) (by decide +kernel)
theorem fk_RX1_46 : Cond.fieldLink RX1 46 RX1 (TX1 8).2.1 (TX1 8).2.2.1 ∈ lw_tbl := List.mem_of_getElem? (i := 119) (by decide +kernel)
theorem fk_RX0_71 : Cond.fieldLink RX0 71 RX1 (TX1 8).2.1 (TX1 8).2.2.1 ∈ lw_tbl := List.mem_of_getElem? (i := 120) (by decide +kernel)
theorem fk_RX5_109 : Cond.fieldLink RX5 109 RX1 (TX1 8).2.1 (TX1 8).2.2.1 ∈ lw_tbl := List.mem_of_getElem? (i := 121) (by decide +kernel)
theorem fk_RX1_27 : Cond.fieldLink RX1 27 RX1 (TX1 9).2.1 (TX1 9).2.2.1 ∈ lw_tbl := List.mem_of_getElem? (i := 122) (by decide +kernel)
theorem fk_RX0_74 : Cond.fieldLink RX0 74 RX1 (TX1 9).2.1 (TX1 9).2.2.1 ∈ lw_tbl := List.mem_of_getElem? (i := 123) (by decide +kernel)
theorem fk_RX5_186 : Cond.fieldLink RX5 186 RX1 (TX1 9).2.1 (TX1 9).2.2.1 ∈ lw_tbl := List.mem_of_getElem? (i := 124) (by decide +kernel)
theorem ac_int : Cond.arrayClass .int ∈ lw_tbl := List.mem_of_getElem? (i := 146) (by decide +kernel)
theorem cl_RX0_22 : Cond.classLink RX0 22 RX4 ∈ lw_tbl := List.mem_of_getElem? (i := 147) (by decide +kernel)
theorem it_RX4 : Cond.instantiable RX4 15 ∈ lw_tbl := List.mem_of_getElem? (i := 148) (by decide +kernel)
theorem lk_RX0_24 : Cond.methodLink RX0 24 yX4_init ∈ lw_tbl := List.mem_of_getElem? (i := 149) (by decide +kernel)
theorem mi_X4_init : Cond.instanceMethod yX4_init ∈ lw_tbl := List.mem_of_getElem? (i := 150) (by decide +kernel)
theorem mc_X4_init : Cond.code yX4_init cX4_init 1 none ∈ lw_tbl := List.mem_of_getElem? (i := 151) (by decide +kernel)
theorem lk_RX4_3 : Cond.methodLink RX4 3 objectInit ∈ lw_tbl := List.mem_of_getElem? (i := 152) (by decide +kernel)
theorem fk_RX4_9 : Cond.fieldLink RX4 9 RX4 (TX4 0).2.1 (TX4 0).2.2.1 ∈ lw_tbl := List.mem_of_getElem? (i := 153) (by decide +kernel)
theorem fk_RX2_73 : Cond.fieldLink RX2 73 RX4 (TX4 0).2.1 (TX4 0).2.2.1 ∈ lw_tbl := List.mem_of_getElem? (i := 154) (by decide +kernel)
theorem fk_RX0_113 : Cond.fieldLink RX0 113 RX4 (TX4 0).2.1 (TX4 0).2.2.1 ∈ lw_tbl := List.mem_of_getElem? (i := 155) (by decide +kernel)
theorem fk_RX2_53 : Cond.fieldLink RX2 53 RX4 (TX4 1).2.1 (TX4 1).2.2.1 ∈ lw_tbl := List.mem_of_getElem? (i := 156) (by decide +kernel)
theorem fk_RX4_91 : Cond.fieldLink RX4 91 RX4 (TX4 1).2.1 (TX4 1).2.2.1 ∈ lw_tbl := List.mem_of_getElem? (i := 157) (by decide +kernel)
theorem fk_RX0_80 : Cond.fieldLink RX0 80 RX4 (TX4 1).2.1 (TX4 1).2.2.1 ∈ lw_tbl := List.mem_of_getElem? (i := 158) (by decide +kernel)
theorem fk_RX4_88 : Cond.fieldLink RX4 88 RX4 (TX4 2).2.1 (TX4 2).2.2.1 ∈ lw_tbl := List.mem_of_getElem? (i := 159) (by decide +kernel)
theorem fk_RX0_97 : Cond.fieldLink RX0 97 RX4 (TX4 2).2.1 (TX4 2).2.2.1 ∈ lw_tbl := List.mem_of_getElem? (i := 160) (by decide +kernel)
theorem fk_RX4_15 : Cond.fieldLink RX4 15 RX4 (TX4 3).2.1 (TX4 3).2.2.1 ∈ lw_tbl := List.mem_of_getElem? (i := 161) (by decide +kernel)
theorem fk_RX4_34 : Cond.fieldLink RX4 34 RX4 (TX4 4).2.1 (TX4 4).2.2.1 ∈ lw_tbl := List.mem_of_getElem? (i := 162) (by decide +kernel)
theorem fk_RX4_41 : Cond.fieldLink RX4 41 RX4 (TX4 5).2.1 (TX4 5).2.2.1 ∈ lw_tbl := List.mem_of_getElem? (i := 163) (by decide +kernel)
theorem fk_RX4_47 : Cond.fieldLink RX4 47 RX4 (TX4 6).2.1 (TX4 6).2.2.1 ∈ lw_tbl := List.mem_of_getElem? (i := 164) (by decide +kernel)
theorem fk_RX4_54 : Cond.fieldLink RX4 54 RX4 (TX4 7).2.1 (TX4 7).2.2.1 ∈ lw_tbl := List.mem_of_getElem? (i := 165) (by decide +kernel)
theorem fk_RX4_18 : Cond.fieldLink RX4 18 RX4 (TX4 8).2.1 (TX4 8).2.2.1 ∈ lw_tbl := List.mem_of_getElem? (i := 166) (by decide +kernel)
theorem fk_RX4_21 : Cond.fieldLink RX4 21 RX4 (TX4 9).2.1 (TX4 9).2.2.1 ∈ lw_tbl := List.mem_of_getElem? (i := 167) (by decide +kernel)
theorem fk_RX4_55 : Cond.fieldLink RX4 55 RX4 (TX4 10).2.1 (TX4 10).2.2.1 ∈ lw_tbl := List.mem_of_getElem? (i := 168) (by decide +kernel)
theorem fk_RX4_58 : Cond.fieldLink RX4 58 RX4 (TX4 11).2.1 (TX4 11).2.2.1 ∈ lw_tbl := List.mem_of_getElem? (i := 169) (by decide +kernel)
theorem fk_RX4_61 : Cond.fieldLink RX4 61 RX4 (TX4 12).2.1 (TX4 12).2.2.1 ∈ lw_tbl := List.mem_of_getElem? (i := 170) (by decide +kernel)
theorem fk_RX4_64 : Cond.fieldLink RX4 64 RX4 (TX4 13).2.1 (TX4 13).2.2.1 ∈ lw_tbl := List.mem_of_getElem? (i := 171) (by decide +kernel)
theorem fk_RX4_67 : Cond.fieldLink RX4 67 RX4 (TX4 14).2.1 (TX4 14).2.2.1 ∈ lw_tbl := List.mem_of_getElem? (i := 172) (by decide +kernel)
theorem ac_boolean : Cond.arrayClass .boolean ∈ lw_tbl := List.mem_of_getElem? (i := 204) (by decide +kernel)
theorem fk_RX0_12 : Cond.fieldLink RX0 12 RX0 (TX0 0).2.1 (TX0 0).2.2.1 ∈ lw_tbl := List.mem_of_getElem? (i := 205) (by decide +kernel)
theorem fk_RX5_16 : Cond.fieldLink RX5 16 RX0 (TX0 0).2.1 (TX0 0).2.2.1 ∈ lw_tbl := List.mem_of_getElem? (i := 206) (by decide +kernel)
theorem fk_RX0_18 : Cond.fieldLink RX0 18 RX0 (TX0 1).2.1 (TX0 1).2.2.1 ∈ lw_tbl := List.mem_of_getElem? (i := 207) (by decide +kernel)
theorem fk_RX5_129 : Cond.fieldLink RX5 129 RX0 (TX0 1).2.1 (TX0 1).2.2.1 ∈ lw_tbl := List.mem_of_getElem? (i := 208) (by decide +kernel)
theorem fk_RX0_59 : Cond.fieldLink RX0 59 RX0 (TX0 2).2.1 (TX0 2).2.2.1 ∈ lw_tbl := List.mem_of_getElem? (i := 209) (by decide +kernel)
theorem fk_RX5_135 : Cond.fieldLink RX5 135 RX0 (TX0 2).2.1 (TX0 2).2.2.1 ∈ lw_tbl := List.mem_of_getElem? (i := 210) (by decide +kernel)
theorem fk_RX0_25 : Cond.fieldLink RX0 25 RX0 (TX0 3).2.1 (TX0 3).2.2.1 ∈ lw_tbl := List.mem_of_getElem? (i := 211) (by decide +kernel)
theorem fk_RX0_29 : Cond.fieldLink RX0 29 RX0 (TX0 4).2.1 (TX0 4).2.2.1 ∈ lw_tbl := List.mem_of_getElem? (i := 212) (by decide +kernel)
theorem fk_RX0_32 : Cond.fieldLink RX0 32 RX0 (TX0 5).2.1 (TX0 5).2.2.1 ∈ lw_tbl := List.mem_of_getElem? (i := 213) (by decide +kernel)
theorem cl_RX5_27 : Cond.classLink RX5 27 RX1 ∈ lw_tbl := List.mem_of_getElem? (i := 227) (by decide +kernel)
theorem lk_RX5_29 : Cond.methodLink RX5 29 yX1_init ∈ lw_tbl := List.mem_of_getElem? (i := 228) (by decide +kernel)
theorem cl_RX5_33 : Cond.classLink RX5 33 RX3 ∈ lw_tbl := List.mem_of_getElem? (i := 229) (by decide +kernel)
theorem it_RX3 : Cond.instantiable RX3 7 ∈ lw_tbl := List.mem_of_getElem? (i := 230) (by decide +kernel)
theorem lk_RX5_35 : Cond.methodLink RX5 35 yX3_init ∈ lw_tbl := List.mem_of_getElem? (i := 231) (by decide +kernel)
theorem mi_X3_init : Cond.instanceMethod yX3_init ∈ lw_tbl := List.mem_of_getElem? (i := 232) (by decide +kernel)
theorem mc_X3_init : Cond.code yX3_init cX3_init 1 none ∈ lw_tbl := List.mem_of_getElem? (i := 233) (by decide +kernel)
theorem lk_RX3_3 : Cond.methodLink RX3 3 objectInit ∈ lw_tbl := List.mem_of_getElem? (i := 234) (by decide +kernel)
theorem fk_RX3_15 : Cond.fieldLink RX3 15 RX3 (TX3 0).2.1 (TX3 0).2.2.1 ∈ lw_tbl := List.mem_of_getElem? (i := 235) (by decide +kernel)
theorem fk_RX5_66 : Cond.fieldLink RX5 66 RX3 (TX3 0).2.1 (TX3 0).2.2.1 ∈ lw_tbl := List.mem_of_getElem? (i := 236) (by decide +kernel)
theorem fk_RX3_9 : Cond.fieldLink RX3 9 RX3 (TX3 1).2.1 (TX3 1).2.2.1 ∈ lw_tbl := List.mem_of_getElem? (i := 237) (by decide +kernel)
theorem fk_RX3_27 : Cond.fieldLink RX3 27 RX3 (TX3 2).2.1 (TX3 2).2.2.1 ∈ lw_tbl := List.mem_of_getElem? (i := 238) (by decide +kernel)
theorem fk_RX3_30 : Cond.fieldLink RX3 30 RX3 (TX3 3).2.1 (TX3 3).2.2.1 ∈ lw_tbl := List.mem_of_getElem? (i := 239) (by decide +kernel)
theorem fk_RX3_41 : Cond.fieldLink RX3 41 RX3 (TX3 4).2.1 (TX3 4).2.2.1 ∈ lw_tbl := List.mem_of_getElem? (i := 240) (by decide +kernel)
theorem fk_RX3_44 : Cond.fieldLink RX3 44 RX3 (TX3 5).2.1 (TX3 5).2.2.1 ∈ lw_tbl := List.mem_of_getElem? (i := 241) (by decide +kernel)
theorem fk_RX3_47 : Cond.fieldLink RX3 47 RX3 (TX3 6).2.1 (TX3 6).2.2.1 ∈ lw_tbl := List.mem_of_getElem? (i := 242) (by decide +kernel)
theorem cl_RX5_40 : Cond.classLink RX5 40 RX2 ∈ lw_tbl := List.mem_of_getElem? (i := 258) (by decide +kernel)
theorem it_RX2 : Cond.instantiable RX2 6 ∈ lw_tbl := List.mem_of_getElem? (i := 259) (by decide +kernel)
theorem lk_RX5_42 : Cond.methodLink RX5 42 yX2_init ∈ lw_tbl := List.mem_of_getElem? (i := 260) (by decide +kernel)
theorem mi_X2_init : Cond.instanceMethod yX2_init ∈ lw_tbl := List.mem_of_getElem? (i := 261) (by decide +kernel)
theorem mc_X2_init : Cond.code yX2_init cX2_init 1 none ∈ lw_tbl := List.mem_of_getElem? (i := 262) (by decide +kernel)
theorem lk_RX2_3 : Cond.methodLink RX2 3 objectInit ∈ lw_tbl := List.mem_of_getElem? (i := 263) (by decide +kernel)
theorem cl_RX2_9 : Cond.classLink RX2 9 RX4 ∈ lw_tbl := List.mem_of_getElem? (i := 264) (by decide +kernel)
theorem lk_RX2_11 : Cond.methodLink RX2 11 yX4_init ∈ lw_tbl := List.mem_of_getElem? (i := 265) (by decide +kernel)
theorem fk_RX2_22 : Cond.fieldLink RX2 22 RX2 (TX2 0).2.1 (TX2 0).2.2.1 ∈ lw_tbl := List.mem_of_getElem? (i := 266) (by decide +kernel)
theorem fk_RX5_160 : Cond.fieldLink RX5 160 RX2 (TX2 0).2.1 (TX2 0).2.2.1 ∈ lw_tbl := List.mem_of_getElem? (i := 267) (by decide +kernel)
theorem fk_RX2_26 : Cond.fieldLink RX2 26 RX2 (TX2 1).2.1 (TX2 1).2.2.1 ∈ lw_tbl := List.mem_of_getElem? (i := 268) (by decide +kernel)
theorem fk_RX5_167 : Cond.fieldLink RX5 167 RX2 (TX2 1).2.1 (TX2 1).2.2.1 ∈ lw_tbl := List.mem_of_getElem? (i := 269) (by decide +kernel)
theorem fk_RX2_29 : Cond.fieldLink RX2 29 RX2 (TX2 2).2.1 (TX2 2).2.2.1 ∈ lw_tbl := List.mem_of_getElem? (i := 270) (by decide +kernel)
theorem fk_RX5_170 : Cond.fieldLink RX5 170 RX2 (TX2 2).2.1 (TX2 2).2.2.1 ∈ lw_tbl := List.mem_of_getElem? (i := 271) (by decide +kernel)
theorem fk_RX2_12 : Cond.fieldLink RX2 12 RX2 (TX2 3).2.1 (TX2 3).2.2.1 ∈ lw_tbl := List.mem_of_getElem? (i := 272) (by decide +kernel)
theorem fk_RX2_18 : Cond.fieldLink RX2 18 RX2 (TX2 4).2.1 (TX2 4).2.2.1 ∈ lw_tbl := List.mem_of_getElem? (i := 273) (by decide +kernel)
theorem fk_RX2_32 : Cond.fieldLink RX2 32 RX2 (TX2 5).2.1 (TX2 5).2.2.1 ∈ lw_tbl := List.mem_of_getElem? (i := 274) (by decide +kernel)
theorem fk_RX5_10 : Cond.fieldLink RX5 10 RX5 (TX5 0).2.1 (TX5 0).2.2.1 ∈ lw_tbl := List.mem_of_getElem? (i := 288) (by decide +kernel)
theorem fk_RX5_20 : Cond.fieldLink RX5 20 RX5 (TX5 1).2.1 (TX5 1).2.2.1 ∈ lw_tbl := List.mem_of_getElem? (i := 289) (by decide +kernel)
theorem fk_RX5_21 : Cond.fieldLink RX5 21 RX5 (TX5 2).2.1 (TX5 2).2.2.1 ∈ lw_tbl := List.mem_of_getElem? (i := 290) (by decide +kernel)
theorem fk_RX5_24 : Cond.fieldLink RX5 24 RX5 (TX5 3).2.1 (TX5 3).2.2.1 ∈ lw_tbl := List.mem_of_getElem? (i := 291) (by decide +kernel)
theorem fk_RX5_30 : Cond.fieldLink RX5 30 RX5 (TX5 4).2.1 (TX5 4).2.2.1 ∈ lw_tbl := List.mem_of_getElem? (i := 292) (by decide +kernel)
theorem fk_RX5_173 : Cond.fieldLink RX5 173 RX5 (TX5 5).2.1 (TX5 5).2.2.1 ∈ lw_tbl := List.mem_of_getElem? (i := 293) (by decide +kernel)
theorem fk_RX5_36 : Cond.fieldLink RX5 36 RX5 (TX5 6).2.1 (TX5 6).2.2.1 ∈ lw_tbl := List.mem_of_getElem? (i := 294) (by decide +kernel)
theorem fk_RX5_43 : Cond.fieldLink RX5 43 RX5 (TX5 7).2.1 (TX5 7).2.2.1 ∈ lw_tbl := List.mem_of_getElem? (i := 295) (by decide +kernel)
theorem fk_RX5_47 : Cond.fieldLink RX5 47 RX5 (TX5 8).2.1 (TX5 8).2.2.1 ∈ lw_tbl := List.mem_of_getElem? (i := 296) (by decide +kernel)
theorem fk_RX5_51 : Cond.fieldLink RX5 51 RX5 (TX5 9).2.1 (TX5 9).2.2.1 ∈ lw_tbl := List.mem_of_getElem? (i := 297) (by decide +kernel)
theorem lk_RL_15 : Cond.methodLink RL 15 yX5_feed ∈ lw_tbl := List.mem_of_getElem? (i := 319) (by decide +kernel)
theorem mi_X5_feed : Cond.instanceMethod yX5_feed ∈ lw_tbl := List.mem_of_getElem? (i := 320) (by decide +kernel)
theorem ml_X5_feed : Cond.selects RX5 yX5_feed yX5_feed ∈ lw_tbl := List.mem_of_getElem? (i := 321) (by decide +kernel)
theorem mc_X5_feed : Cond.code yX5_feed cX5_feed 4 (some .int) ∈ lw_tbl := List.mem_of_getElem? (i := 322) (by decide +kernel)
theorem lk_RX5_54 : Cond.methodLink RX5 54 yX5_refuse ∈ lw_tbl := List.mem_of_getElem? (i := 323) (by decide +kernel)
theorem mi_X5_refuse : Cond.instanceMethod yX5_refuse ∈ lw_tbl := List.mem_of_getElem? (i := 325) (by decide +kernel)
theorem mc_X5_refuse : Cond.code yX5_refuse cX5_refuse 3 (some .int) ∈ lw_tbl := List.mem_of_getElem? (i := 326) (by decide +kernel)
theorem lk_RX5_58 : Cond.methodLink RX5 58 yX3_hasRoom ∈ lw_tbl := List.mem_of_getElem? (i := 327) (by decide +kernel)
theorem mi_X3_hasRoom : Cond.instanceMethod yX3_hasRoom ∈ lw_tbl := List.mem_of_getElem? (i := 328) (by decide +kernel)
theorem ml_X3_hasRoom : Cond.selects RX3 yX3_hasRoom yX3_hasRoom ∈ lw_tbl := List.mem_of_getElem? (i := 329) (by decide +kernel)
theorem mc_X3_hasRoom : Cond.code yX3_hasRoom cX3_hasRoom 2 (some .boolean) ∈ lw_tbl := List.mem_of_getElem? (i := 330) (by decide +kernel)
theorem lk_RX5_62 : Cond.methodLink RX5 62 yX3_put ∈ lw_tbl := List.mem_of_getElem? (i := 331) (by decide +kernel)
theorem mi_X3_put : Cond.instanceMethod yX3_put ∈ lw_tbl := List.mem_of_getElem? (i := 332) (by decide +kernel)
theorem ml_X3_put : Cond.selects RX3 yX3_put yX3_put ∈ lw_tbl := List.mem_of_getElem? (i := 333) (by decide +kernel)
theorem mc_X3_put : Cond.code yX3_put cX3_put 5 none ∈ lw_tbl := List.mem_of_getElem? (i := 334) (by decide +kernel)
theorem lk_RL_20 : Cond.methodLink RL 20 yX5_line ∈ lw_tbl := List.mem_of_getElem? (i := 335) (by decide +kernel)
theorem mi_X5_line : Cond.instanceMethod yX5_line ∈ lw_tbl := List.mem_of_getElem? (i := 336) (by decide +kernel)
theorem ml_X5_line : Cond.selects RX5 yX5_line yX5_line ∈ lw_tbl := List.mem_of_getElem? (i := 337) (by decide +kernel)
theorem mc_X5_line : Cond.code yX5_line cX5_line 2 (some .int) ∈ lw_tbl := List.mem_of_getElem? (i := 338) (by decide +kernel)
theorem lk_RX5_70 : Cond.methodLink RX5 70 yX1_copyFrom ∈ lw_tbl := List.mem_of_getElem? (i := 339) (by decide +kernel)
theorem mi_X1_copyFrom : Cond.instanceMethod yX1_copyFrom ∈ lw_tbl := List.mem_of_getElem? (i := 340) (by decide +kernel)
theorem ml_X1_copyFrom : Cond.selects RX1 yX1_copyFrom yX1_copyFrom ∈ lw_tbl := List.mem_of_getElem? (i := 341) (by decide +kernel)
theorem mc_X1_copyFrom : Cond.code yX1_copyFrom cX1_copyFrom 2 none ∈ lw_tbl := List.mem_of_getElem? (i := 342) (by decide +kernel)
theorem lk_RX1_34 : Cond.methodLink RX1 34 arraycopyName ∈ lw_tbl := List.mem_of_getElem? (i := 343) (by decide +kernel)
theorem nat_arraycopy : Cond.native arraycopyName ∈ lw_tbl := List.mem_of_getElem? (i := 345) (by decide +kernel)
theorem lk_RX5_74 : Cond.methodLink RX5 74 yX3_readInto ∈ lw_tbl := List.mem_of_getElem? (i := 346) (by decide +kernel)
theorem mi_X3_readInto : Cond.instanceMethod yX3_readInto ∈ lw_tbl := List.mem_of_getElem? (i := 347) (by decide +kernel)
theorem ml_X3_readInto : Cond.selects RX3 yX3_readInto yX3_readInto ∈ lw_tbl := List.mem_of_getElem? (i := 348) (by decide +kernel)
theorem mc_X3_readInto : Cond.code yX3_readInto cX3_readInto 3 (some .int) ∈ lw_tbl := List.mem_of_getElem? (i := 349) (by decide +kernel)
theorem lk_RX3_19 : Cond.methodLink RX3 19 yX3_formFault ∈ lw_tbl := List.mem_of_getElem? (i := 350) (by decide +kernel)
theorem mi_X3_formFault : Cond.instanceMethod yX3_formFault ∈ lw_tbl := List.mem_of_getElem? (i := 352) (by decide +kernel)
theorem mc_X3_formFault : Cond.code yX3_formFault cX3_formFault 2 (some .int) ∈ lw_tbl := List.mem_of_getElem? (i := 353) (by decide +kernel)
theorem lk_RX3_34 : Cond.methodLink RX3 34 yX3_readStatement ∈ lw_tbl := List.mem_of_getElem? (i := 354) (by decide +kernel)
theorem mi_X3_readStatement : Cond.instanceMethod yX3_readStatement ∈ lw_tbl := List.mem_of_getElem? (i := 356) (by decide +kernel)
theorem mc_X3_readStatement : Cond.code yX3_readStatement cX3_readStatement 1 none ∈ lw_tbl := List.mem_of_getElem? (i := 357) (by decide +kernel)
theorem lk_RX3_63 : Cond.methodLink RX3 63 yX3_look ∈ lw_tbl := List.mem_of_getElem? (i := 358) (by decide +kernel)
theorem mi_X3_look : Cond.instanceMethod yX3_look ∈ lw_tbl := List.mem_of_getElem? (i := 360) (by decide +kernel)
theorem mc_X3_look : Cond.code yX3_look cX3_look 1 (some .int) ∈ lw_tbl := List.mem_of_getElem? (i := 361) (by decide +kernel)
theorem lk_RX3_66 : Cond.methodLink RX3 66 yX3_readNumber ∈ lw_tbl := List.mem_of_getElem? (i := 362) (by decide +kernel)
theorem mi_X3_readNumber : Cond.instanceMethod yX3_readNumber ∈ lw_tbl := List.mem_of_getElem? (i := 364) (by decide +kernel)
theorem mc_X3_readNumber : Cond.code yX3_readNumber cX3_readNumber 5 (some .int) ∈ lw_tbl := List.mem_of_getElem? (i := 365) (by decide +kernel)
theorem lk_RX3_70 : Cond.methodLink RX3 70 yX3_take ∈ lw_tbl := List.mem_of_getElem? (i := 366) (by decide +kernel)
theorem mi_X3_take : Cond.instanceMethod yX3_take ∈ lw_tbl := List.mem_of_getElem? (i := 368) (by decide +kernel)
theorem mc_X3_take : Cond.code yX3_take cX3_take 2 none ∈ lw_tbl := List.mem_of_getElem? (i := 369) (by decide +kernel)
theorem lk_RX3_23 : Cond.methodLink RX3 23 yX3_bring ∈ lw_tbl := List.mem_of_getElem? (i := 370) (by decide +kernel)
theorem mi_X3_bring : Cond.instanceMethod yX3_bring ∈ lw_tbl := List.mem_of_getElem? (i := 372) (by decide +kernel)
theorem mc_X3_bring : Cond.code yX3_bring cX3_bring 5 (some .int) ∈ lw_tbl := List.mem_of_getElem? (i := 373) (by decide +kernel)
theorem lk_RX3_37 : Cond.methodLink RX3 37 yX3_bringStatement ∈ lw_tbl := List.mem_of_getElem? (i := 374) (by decide +kernel)
theorem mi_X3_bringStatement : Cond.instanceMethod yX3_bringStatement ∈ lw_tbl := List.mem_of_getElem? (i := 376) (by decide +kernel)
theorem mc_X3_bringStatement : Cond.code yX3_bringStatement cX3_bringStatement 2 (some .boolean) ∈ lw_tbl := List.mem_of_getElem? (i := 377) (by decide +kernel)
theorem lk_RX3_50 : Cond.methodLink RX3 50 yX1_addPiece ∈ lw_tbl := List.mem_of_getElem? (i := 378) (by decide +kernel)
theorem mi_X1_addPiece : Cond.instanceMethod yX1_addPiece ∈ lw_tbl := List.mem_of_getElem? (i := 379) (by decide +kernel)
theorem ml_X1_addPiece : Cond.selects RX1 yX1_addPiece yX1_addPiece ∈ lw_tbl := List.mem_of_getElem? (i := 380) (by decide +kernel)
theorem mc_X1_addPiece : Cond.code yX1_addPiece cX1_addPiece 3 (some .boolean) ∈ lw_tbl := List.mem_of_getElem? (i := 381) (by decide +kernel)
theorem lk_RX3_56 : Cond.methodLink RX3 56 yX1_addTrain ∈ lw_tbl := List.mem_of_getElem? (i := 382) (by decide +kernel)
theorem mi_X1_addTrain : Cond.instanceMethod yX1_addTrain ∈ lw_tbl := List.mem_of_getElem? (i := 383) (by decide +kernel)
theorem ml_X1_addTrain : Cond.selects RX1 yX1_addTrain yX1_addTrain ∈ lw_tbl := List.mem_of_getElem? (i := 384) (by decide +kernel)
theorem mc_X1_addTrain : Cond.code yX1_addTrain cX1_addTrain 3 (some .boolean) ∈ lw_tbl := List.mem_of_getElem? (i := 385) (by decide +kernel)
theorem lk_RX3_59 : Cond.methodLink RX3 59 yX1_putEngines ∈ lw_tbl := List.mem_of_getElem? (i := 386) (by decide +kernel)
theorem mi_X1_putEngines : Cond.instanceMethod yX1_putEngines ∈ lw_tbl := List.mem_of_getElem? (i := 387) (by decide +kernel)
theorem ml_X1_putEngines : Cond.selects RX1 yX1_putEngines yX1_putEngines ∈ lw_tbl := List.mem_of_getElem? (i := 388) (by decide +kernel)
theorem mc_X1_putEngines : Cond.code yX1_putEngines cX1_putEngines 2 (some .boolean) ∈ lw_tbl := List.mem_of_getElem? (i := 389) (by decide +kernel)
theorem lk_RL_25 : Cond.methodLink RL 25 yX5_piece ∈ lw_tbl := List.mem_of_getElem? (i := 390) (by decide +kernel)
theorem mi_X5_piece : Cond.instanceMethod yX5_piece ∈ lw_tbl := List.mem_of_getElem? (i := 391) (by decide +kernel)
theorem ml_X5_piece : Cond.selects RX5 yX5_piece yX5_piece ∈ lw_tbl := List.mem_of_getElem? (i := 392) (by decide +kernel)
theorem mc_X5_piece : Cond.code yX5_piece cX5_piece 3 (some .int) ∈ lw_tbl := List.mem_of_getElem? (i := 393) (by decide +kernel)
theorem lk_RX5_78 : Cond.methodLink RX5 78 yX1_hasPiece ∈ lw_tbl := List.mem_of_getElem? (i := 394) (by decide +kernel)
theorem mi_X1_hasPiece : Cond.instanceMethod yX1_hasPiece ∈ lw_tbl := List.mem_of_getElem? (i := 395) (by decide +kernel)
theorem ml_X1_hasPiece : Cond.selects RX1 yX1_hasPiece yX1_hasPiece ∈ lw_tbl := List.mem_of_getElem? (i := 396) (by decide +kernel)
theorem mc_X1_hasPiece : Cond.code yX1_hasPiece cX1_hasPiece 2 (some .boolean) ∈ lw_tbl := List.mem_of_getElem? (i := 397) (by decide +kernel)
theorem lk_RL_30 : Cond.methodLink RL 30 yX5_train ∈ lw_tbl := List.mem_of_getElem? (i := 398) (by decide +kernel)
theorem mi_X5_train : Cond.instanceMethod yX5_train ∈ lw_tbl := List.mem_of_getElem? (i := 399) (by decide +kernel)
theorem ml_X5_train : Cond.selects RX5 yX5_train yX5_train ∈ lw_tbl := List.mem_of_getElem? (i := 400) (by decide +kernel)
theorem mc_X5_train : Cond.code yX5_train cX5_train 3 (some .int) ∈ lw_tbl := List.mem_of_getElem? (i := 401) (by decide +kernel)
theorem lk_RX5_87 : Cond.methodLink RX5 87 yX1_hasTrain ∈ lw_tbl := List.mem_of_getElem? (i := 402) (by decide +kernel)
theorem mi_X1_hasTrain : Cond.instanceMethod yX1_hasTrain ∈ lw_tbl := List.mem_of_getElem? (i := 403) (by decide +kernel)
theorem ml_X1_hasTrain : Cond.selects RX1 yX1_hasTrain yX1_hasTrain ∈ lw_tbl := List.mem_of_getElem? (i := 404) (by decide +kernel)
theorem mc_X1_hasTrain : Cond.code yX1_hasTrain cX1_hasTrain 2 (some .boolean) ∈ lw_tbl := List.mem_of_getElem? (i := 405) (by decide +kernel)
theorem lk_RL_34 : Cond.methodLink RL 34 yX5_set ∈ lw_tbl := List.mem_of_getElem? (i := 406) (by decide +kernel)
theorem mi_X5_set : Cond.instanceMethod yX5_set ∈ lw_tbl := List.mem_of_getElem? (i := 407) (by decide +kernel)
theorem ml_X5_set : Cond.selects RX5 yX5_set yX5_set ∈ lw_tbl := List.mem_of_getElem? (i := 408) (by decide +kernel)
theorem mc_X5_set : Cond.code yX5_set cX5_set 4 (some .int) ∈ lw_tbl := List.mem_of_getElem? (i := 409) (by decide +kernel)
theorem fk_RX5_96 : Cond.fieldLink RX5 96 "PushedUp" "LEAST_SETTING" "[I" ∈ lw_tbl := List.mem_of_getElem? (i := 410) (by decide +kernel)
theorem fk_RX5_99 : Cond.fieldLink RX5 99 "PushedUp" "MOST_SETTING" "[I" ∈ lw_tbl := List.mem_of_getElem? (i := 412) (by decide +kernel)
theorem lk_RL_38 : Cond.methodLink RL 38 yX5_makeDouble ∈ lw_tbl := List.mem_of_getElem? (i := 414) (by decide +kernel)
theorem mi_X5_makeDouble : Cond.instanceMethod yX5_makeDouble ∈ lw_tbl := List.mem_of_getElem? (i := 415) (by decide +kernel)
theorem ml_X5_makeDouble : Cond.selects RX5 yX5_makeDouble yX5_makeDouble ∈ lw_tbl := List.mem_of_getElem? (i := 416) (by decide +kernel)
theorem mc_X5_makeDouble : Cond.code yX5_makeDouble cX5_makeDouble 4 (some .int) ∈ lw_tbl := List.mem_of_getElem? (i := 417) (by decide +kernel)
theorem lk_RL_43 : Cond.methodLink RL 43 yX5_order ∈ lw_tbl := List.mem_of_getElem? (i := 418) (by decide +kernel)
theorem mi_X5_order : Cond.instanceMethod yX5_order ∈ lw_tbl := List.mem_of_getElem? (i := 419) (by decide +kernel)
theorem ml_X5_order : Cond.selects RX5 yX5_order yX5_order ∈ lw_tbl := List.mem_of_getElem? (i := 420) (by decide +kernel)
theorem mc_X5_order : Cond.code yX5_order cX5_order 4 (some .int) ∈ lw_tbl := List.mem_of_getElem? (i := 421) (by decide +kernel)
theorem lk_RX5_105 : Cond.methodLink RX5 105 yX1_areDifferentTrains ∈ lw_tbl := List.mem_of_getElem? (i := 422) (by decide +kernel)
theorem mi_X1_areDifferentTrains : Cond.instanceMethod yX1_areDifferentTrains ∈ lw_tbl := List.mem_of_getElem? (i := 423) (by decide +kernel)
theorem ml_X1_areDifferentTrains : Cond.selects RX1 yX1_areDifferentTrains yX1_areDifferentTrains ∈ lw_tbl := List.mem_of_getElem? (i := 424) (by decide +kernel)
theorem mc_X1_areDifferentTrains : Cond.code yX1_areDifferentTrains cX1_areDifferentTrains 7 (some .boolean) ∈ lw_tbl := List.mem_of_getElem? (i := 425) (by decide +kernel)
theorem lk_RX1_57 : Cond.methodLink RX1 57 yX1_hasTrain ∈ lw_tbl := List.mem_of_getElem? (i := 426) (by decide +kernel)
theorem lk_RX5_112 : Cond.methodLink RX5 112 yX1_putOrder ∈ lw_tbl := List.mem_of_getElem? (i := 427) (by decide +kernel)
theorem mi_X1_putOrder : Cond.instanceMethod yX1_putOrder ∈ lw_tbl := List.mem_of_getElem? (i := 428) (by decide +kernel)
theorem ml_X1_putOrder : Cond.selects RX1 yX1_putOrder yX1_putOrder ∈ lw_tbl := List.mem_of_getElem? (i := 429) (by decide +kernel)
theorem mc_X1_putOrder : Cond.code yX1_putOrder cX1_putOrder 5 none ∈ lw_tbl := List.mem_of_getElem? (i := 430) (by decide +kernel)
theorem lk_RL_47 : Cond.methodLink RL 47 yX5_climbs ∈ lw_tbl := List.mem_of_getElem? (i := 431) (by decide +kernel)
theorem mi_X5_climbs : Cond.instanceMethod yX5_climbs ∈ lw_tbl := List.mem_of_getElem? (i := 432) (by decide +kernel)
theorem ml_X5_climbs : Cond.selects RX5 yX5_climbs yX5_climbs ∈ lw_tbl := List.mem_of_getElem? (i := 433) (by decide +kernel)
theorem mc_X5_climbs : Cond.code yX5_climbs cX5_climbs 2 (some .int) ∈ lw_tbl := List.mem_of_getElem? (i := 434) (by decide +kernel)
theorem lk_RX5_116 : Cond.methodLink RX5 116 yX1_kindOf ∈ lw_tbl := List.mem_of_getElem? (i := 435) (by decide +kernel)
theorem mi_X1_kindOf : Cond.instanceMethod yX1_kindOf ∈ lw_tbl := List.mem_of_getElem? (i := 436) (by decide +kernel)
theorem ml_X1_kindOf : Cond.selects RX1 yX1_kindOf yX1_kindOf ∈ lw_tbl := List.mem_of_getElem? (i := 437) (by decide +kernel)
theorem mc_X1_kindOf : Cond.code yX1_kindOf cX1_kindOf 3 (some .int) ∈ lw_tbl := List.mem_of_getElem? (i := 438) (by decide +kernel)
theorem lk_RX1_49 : Cond.methodLink RX1 49 yX1_onThisRail ∈ lw_tbl := List.mem_of_getElem? (i := 439) (by decide +kernel)
theorem mi_X1_onThisRail : Cond.instanceMethod yX1_onThisRail ∈ lw_tbl := List.mem_of_getElem? (i := 441) (by decide +kernel)
theorem mc_X1_onThisRail : Cond.code yX1_onThisRail cX1_onThisRail 2 (some .int) ∈ lw_tbl := List.mem_of_getElem? (i := 442) (by decide +kernel)
theorem lk_RL_52 : Cond.methodLink RL 52 yX5_takes ∈ lw_tbl := List.mem_of_getElem? (i := 443) (by decide +kernel)
theorem mi_X5_takes : Cond.instanceMethod yX5_takes ∈ lw_tbl := List.mem_of_getElem? (i := 444) (by decide +kernel)
theorem ml_X5_takes : Cond.selects RX5 yX5_takes yX5_takes ∈ lw_tbl := List.mem_of_getElem? (i := 445) (by decide +kernel)
theorem mc_X5_takes : Cond.code yX5_takes cX5_takes 2 (some .int) ∈ lw_tbl := List.mem_of_getElem? (i := 446) (by decide +kernel)
theorem lk_RX5_119 : Cond.methodLink RX5 119 yX1_climbMinutes ∈ lw_tbl := List.mem_of_getElem? (i := 447) (by decide +kernel)
theorem mi_X1_climbMinutes : Cond.instanceMethod yX1_climbMinutes ∈ lw_tbl := List.mem_of_getElem? (i := 448) (by decide +kernel)
theorem ml_X1_climbMinutes : Cond.selects RX1 yX1_climbMinutes yX1_climbMinutes ∈ lw_tbl := List.mem_of_getElem? (i := 449) (by decide +kernel)
theorem mc_X1_climbMinutes : Cond.code yX1_climbMinutes cX1_climbMinutes 4 (some .int) ∈ lw_tbl := List.mem_of_getElem? (i := 450) (by decide +kernel)
theorem lk_RX1_53 : Cond.methodLink RX1 53 yX1_baseMinutes ∈ lw_tbl := List.mem_of_getElem? (i := 451) (by decide +kernel)
theorem mi_X1_baseMinutes : Cond.instanceMethod yX1_baseMinutes ∈ lw_tbl := List.mem_of_getElem? (i := 452) (by decide +kernel)
theorem ml_X1_baseMinutes : Cond.selects RX1 yX1_baseMinutes yX1_baseMinutes ∈ lw_tbl := List.mem_of_getElem? (i := 453) (by decide +kernel)
theorem mc_X1_baseMinutes : Cond.code yX1_baseMinutes cX1_baseMinutes 3 (some .int) ∈ lw_tbl := List.mem_of_getElem? (i := 454) (by decide +kernel)
theorem lk_RL_56 : Cond.methodLink RL 56 yX5_base ∈ lw_tbl := List.mem_of_getElem? (i := 455) (by decide +kernel)
theorem mi_X5_base : Cond.instanceMethod yX5_base ∈ lw_tbl := List.mem_of_getElem? (i := 456) (by decide +kernel)
theorem ml_X5_base : Cond.selects RX5 yX5_base yX5_base ∈ lw_tbl := List.mem_of_getElem? (i := 457) (by decide +kernel)
theorem mc_X5_base : Cond.code yX5_base cX5_base 1 (some .int) ∈ lw_tbl := List.mem_of_getElem? (i := 458) (by decide +kernel)
theorem lk_RX5_122 : Cond.methodLink RX5 122 yX1_baseMinutes ∈ lw_tbl := List.mem_of_getElem? (i := 459) (by decide +kernel)
theorem lk_RL_60 : Cond.methodLink RL 60 yX5_waited ∈ lw_tbl := List.mem_of_getElem? (i := 460) (by decide +kernel)
theorem mi_X5_waited : Cond.instanceMethod yX5_waited ∈ lw_tbl := List.mem_of_getElem? (i := 461) (by decide +kernel)
theorem ml_X5_waited : Cond.selects RX5 yX5_waited yX5_waited ∈ lw_tbl := List.mem_of_getElem? (i := 462) (by decide +kernel)
theorem mc_X5_waited : Cond.code yX5_waited cX5_waited 3 (some .int) ∈ lw_tbl := List.mem_of_getElem? (i := 463) (by decide +kernel)
theorem lk_RX5_126 : Cond.methodLink RX5 126 yX0_run ∈ lw_tbl := List.mem_of_getElem? (i := 464) (by decide +kernel)
theorem mi_X0_run : Cond.instanceMethod yX0_run ∈ lw_tbl := List.mem_of_getElem? (i := 465) (by decide +kernel)
theorem ml_X0_run : Cond.selects RX0 yX0_run yX0_run ∈ lw_tbl := List.mem_of_getElem? (i := 466) (by decide +kernel)
theorem mc_X0_run : Cond.code yX0_run cX0_run 3 none ∈ lw_tbl := List.mem_of_getElem? (i := 467) (by decide +kernel)
theorem lk_RX0_35 : Cond.methodLink RX0 35 yX0_start ∈ lw_tbl := List.mem_of_getElem? (i := 468) (by decide +kernel)
theorem mi_X0_start : Cond.instanceMethod yX0_start ∈ lw_tbl := List.mem_of_getElem? (i := 470) (by decide +kernel)
theorem mc_X0_start : Cond.code yX0_start cX0_start 2 none ∈ lw_tbl := List.mem_of_getElem? (i := 471) (by decide +kernel)
theorem lk_RX0_56 : Cond.methodLink RX0 56 yX4_start ∈ lw_tbl := List.mem_of_getElem? (i := 472) (by decide +kernel)
theorem mi_X4_start : Cond.instanceMethod yX4_start ∈ lw_tbl := List.mem_of_getElem? (i := 473) (by decide +kernel)
theorem ml_X4_start : Cond.selects RX4 yX4_start yX4_start ∈ lw_tbl := List.mem_of_getElem? (i := 474) (by decide +kernel)
theorem mc_X4_start : Cond.code yX4_start cX4_start 3 none ∈ lw_tbl := List.mem_of_getElem? (i := 475) (by decide +kernel)
theorem lk_RX4_25 : Cond.methodLink RX4 25 yX1_climbMinutes ∈ lw_tbl := List.mem_of_getElem? (i := 476) (by decide +kernel)
theorem lk_RX4_30 : Cond.methodLink RX4 30 yX1_baseMinutes ∈ lw_tbl := List.mem_of_getElem? (i := 477) (by decide +kernel)
theorem lk_RX4_44 : Cond.methodLink RX4 44 yX1_singles ∈ lw_tbl := List.mem_of_getElem? (i := 478) (by decide +kernel)
theorem mi_X1_singles : Cond.instanceMethod yX1_singles ∈ lw_tbl := List.mem_of_getElem? (i := 479) (by decide +kernel)
theorem ml_X1_singles : Cond.selects RX1 yX1_singles yX1_singles ∈ lw_tbl := List.mem_of_getElem? (i := 480) (by decide +kernel)
theorem mc_X1_singles : Cond.code yX1_singles cX1_singles 3 (some .int) ∈ lw_tbl := List.mem_of_getElem? (i := 481) (by decide +kernel)
theorem lk_RX4_70 : Cond.methodLink RX4 70 yX4_lookAhead ∈ lw_tbl := List.mem_of_getElem? (i := 482) (by decide +kernel)
theorem mi_X4_lookAhead : Cond.instanceMethod yX4_lookAhead ∈ lw_tbl := List.mem_of_getElem? (i := 484) (by decide +kernel)
theorem mc_X4_lookAhead : Cond.code yX4_lookAhead cX4_lookAhead 5 none ∈ lw_tbl := List.mem_of_getElem? (i := 485) (by decide +kernel)
theorem lk_RX4_83 : Cond.methodLink RX4 83 yX4_firstEngine ∈ lw_tbl := List.mem_of_getElem? (i := 486) (by decide +kernel)
theorem mi_X4_firstEngine : Cond.instanceMethod yX4_firstEngine ∈ lw_tbl := List.mem_of_getElem? (i := 488) (by decide +kernel)
theorem mc_X4_firstEngine : Cond.code yX4_firstEngine cX4_firstEngine 4 (some .int) ∈ lw_tbl := List.mem_of_getElem? (i := 489) (by decide +kernel)
theorem ck_RX4_87 : Cond.constant RX4 87 1000000 ∈ lw_tbl := List.mem_of_getElem? (i := 490) (by decide +kernel)
theorem lk_RX4_73 : Cond.methodLink RX4 73 Lib.Math.max.name ∈ lw_tbl := List.mem_of_getElem? (i := 491) (by decide +kernel)
theorem lk_RX0_62 : Cond.methodLink RX0 62 yX1_kindOf ∈ lw_tbl := List.mem_of_getElem? (i := 494) (by decide +kernel)
theorem lk_RX0_65 : Cond.methodLink RX0 65 yX0_findTurns ∈ lw_tbl := List.mem_of_getElem? (i := 495) (by decide +kernel)
theorem mi_X0_findTurns : Cond.instanceMethod yX0_findTurns ∈ lw_tbl := List.mem_of_getElem? (i := 497) (by decide +kernel)
theorem mc_X0_findTurns : Cond.code yX0_findTurns cX0_findTurns 4 none ∈ lw_tbl := List.mem_of_getElem? (i := 498) (by decide +kernel)
theorem lk_RX0_77 : Cond.methodLink RX0 77 yX1_hasTrain ∈ lw_tbl := List.mem_of_getElem? (i := 499) (by decide +kernel)
theorem lk_RX0_38 : Cond.methodLink RX0 38 yX0_beginOne ∈ lw_tbl := List.mem_of_getElem? (i := 500) (by decide +kernel)
theorem mi_X0_beginOne : Cond.instanceMethod yX0_beginOne ∈ lw_tbl := List.mem_of_getElem? (i := 502) (by decide +kernel)
theorem mc_X0_beginOne : Cond.code yX0_beginOne cX0_beginOne 3 (some .boolean) ∈ lw_tbl := List.mem_of_getElem? (i := 503) (by decide +kernel)
theorem lk_RX0_83 : Cond.methodLink RX0 83 yX0_hangs ∈ lw_tbl := List.mem_of_getElem? (i := 504) (by decide +kernel)
theorem mi_X0_hangs : Cond.instanceMethod yX0_hangs ∈ lw_tbl := List.mem_of_getElem? (i := 506) (by decide +kernel)
theorem mc_X0_hangs : Cond.code yX0_hangs cX0_hangs 2 (some .boolean) ∈ lw_tbl := List.mem_of_getElem? (i := 507) (by decide +kernel)
theorem lk_RX0_100 : Cond.methodLink RX0 100 yX0_someWaits ∈ lw_tbl := List.mem_of_getElem? (i := 508) (by decide +kernel)
theorem mi_X0_someWaits : Cond.instanceMethod yX0_someWaits ∈ lw_tbl := List.mem_of_getElem? (i := 510) (by decide +kernel)
theorem mc_X0_someWaits : Cond.code yX0_someWaits cX0_someWaits 3 (some .boolean) ∈ lw_tbl := List.mem_of_getElem? (i := 511) (by decide +kernel)
theorem lk_RX0_103 : Cond.methodLink RX0 103 yX0_isToCome ∈ lw_tbl := List.mem_of_getElem? (i := 512) (by decide +kernel)
theorem mi_X0_isToCome : Cond.instanceMethod yX0_isToCome ∈ lw_tbl := List.mem_of_getElem? (i := 514) (by decide +kernel)
theorem mc_X0_isToCome : Cond.code yX0_isToCome cX0_isToCome 2 (some .boolean) ∈ lw_tbl := List.mem_of_getElem? (i := 515) (by decide +kernel)
theorem lk_RX0_86 : Cond.methodLink RX0 86 yX4_comeDown ∈ lw_tbl := List.mem_of_getElem? (i := 516) (by decide +kernel)
theorem mi_X4_comeDown : Cond.instanceMethod yX4_comeDown ∈ lw_tbl := List.mem_of_getElem? (i := 517) (by decide +kernel)
theorem ml_X4_comeDown : Cond.selects RX4 yX4_comeDown yX4_comeDown ∈ lw_tbl := List.mem_of_getElem? (i := 518) (by decide +kernel)
theorem mc_X4_comeDown : Cond.code yX4_comeDown cX4_comeDown 2 none ∈ lw_tbl := List.mem_of_getElem? (i := 519) (by decide +kernel)
theorem lk_RX4_79 : Cond.methodLink RX4 79 yX4_moveEngine ∈ lw_tbl := List.mem_of_getElem? (i := 520) (by decide +kernel)
theorem mi_X4_moveEngine : Cond.instanceMethod yX4_moveEngine ∈ lw_tbl := List.mem_of_getElem? (i := 522) (by decide +kernel)
theorem mc_X4_moveEngine : Cond.code yX4_moveEngine cX4_moveEngine 4 none ∈ lw_tbl := List.mem_of_getElem? (i := 523) (by decide +kernel)
theorem lk_RX0_90 : Cond.methodLink RX0 90 yX0_firstThatCan ∈ lw_tbl := List.mem_of_getElem? (i := 524) (by decide +kernel)
theorem mi_X0_firstThatCan : Cond.instanceMethod yX0_firstThatCan ∈ lw_tbl := List.mem_of_getElem? (i := 526) (by decide +kernel)
theorem mc_X0_firstThatCan : Cond.code yX0_firstThatCan cX0_firstThatCan 4 (some .int) ∈ lw_tbl := List.mem_of_getElem? (i := 527) (by decide +kernel)
theorem lk_RX0_106 : Cond.methodLink RX0 106 yX0_canFrom ∈ lw_tbl := List.mem_of_getElem? (i := 528) (by decide +kernel)
theorem mi_X0_canFrom : Cond.instanceMethod yX0_canFrom ∈ lw_tbl := List.mem_of_getElem? (i := 530) (by decide +kernel)
theorem mc_X0_canFrom : Cond.code yX0_canFrom cX0_canFrom 2 (some .int) ∈ lw_tbl := List.mem_of_getElem? (i := 531) (by decide +kernel)
theorem lk_RX0_116 : Cond.methodLink RX0 116 Lib.Math.max.name ∈ lw_tbl := List.mem_of_getElem? (i := 532) (by decide +kernel)
theorem ck_RX0_122 : Cond.constant RX0 122 1000000 ∈ lw_tbl := List.mem_of_getElem? (i := 533) (by decide +kernel)
theorem lk_RX0_109 : Cond.methodLink RX0 109 yX0_isBefore ∈ lw_tbl := List.mem_of_getElem? (i := 534) (by decide +kernel)
theorem mi_X0_isBefore : Cond.instanceMethod yX0_isBefore ∈ lw_tbl := List.mem_of_getElem? (i := 536) (by decide +kernel)
theorem mc_X0_isBefore : Cond.code yX0_isBefore cX0_isBefore 3 (some .boolean) ∈ lw_tbl := List.mem_of_getElem? (i := 537) (by decide +kernel)
theorem lk_RX0_93 : Cond.methodLink RX0 93 yX4_goUp ∈ lw_tbl := List.mem_of_getElem? (i := 538) (by decide +kernel)
theorem mi_X4_goUp : Cond.instanceMethod yX4_goUp ∈ lw_tbl := List.mem_of_getElem? (i := 539) (by decide +kernel)
theorem ml_X4_goUp : Cond.selects RX4 yX4_goUp yX4_goUp ∈ lw_tbl := List.mem_of_getElem? (i := 540) (by decide +kernel)
theorem mc_X4_goUp : Cond.code yX4_goUp cX4_goUp 4 none ∈ lw_tbl := List.mem_of_getElem? (i := 541) (by decide +kernel)
theorem lk_RX0_42 : Cond.methodLink RX0 42 yX0_nextChance ∈ lw_tbl := List.mem_of_getElem? (i := 542) (by decide +kernel)
theorem mi_X0_nextChance : Cond.instanceMethod yX0_nextChance ∈ lw_tbl := List.mem_of_getElem? (i := 544) (by decide +kernel)
theorem mc_X0_nextChance : Cond.code yX0_nextChance cX0_nextChance 4 (some .int) ∈ lw_tbl := List.mem_of_getElem? (i := 545) (by decide +kernel)
theorem lk_RX0_123 : Cond.methodLink RX0 123 Lib.Math.min.name ∈ lw_tbl := List.mem_of_getElem? (i := 546) (by decide +kernel)
theorem lk_RL_64 : Cond.methodLink RL 64 yX5_began ∈ lw_tbl := List.mem_of_getElem? (i := 549) (by decide +kernel)
theorem mi_X5_began : Cond.instanceMethod yX5_began ∈ lw_tbl := List.mem_of_getElem? (i := 550) (by decide +kernel)
theorem ml_X5_began : Cond.selects RX5 yX5_began yX5_began ∈ lw_tbl := List.mem_of_getElem? (i := 551) (by decide +kernel)
theorem mc_X5_began : Cond.code yX5_began cX5_began 2 (some .int) ∈ lw_tbl := List.mem_of_getElem? (i := 552) (by decide +kernel)
theorem lk_RL_68 : Cond.methodLink RL 68 yX5_allWaited ∈ lw_tbl := List.mem_of_getElem? (i := 553) (by decide +kernel)
theorem mi_X5_allWaited : Cond.instanceMethod yX5_allWaited ∈ lw_tbl := List.mem_of_getElem? (i := 554) (by decide +kernel)
theorem ml_X5_allWaited : Cond.selects RX5 yX5_allWaited yX5_allWaited ∈ lw_tbl := List.mem_of_getElem? (i := 555) (by decide +kernel)
theorem mc_X5_allWaited : Cond.code yX5_allWaited cX5_allWaited 1 (some .int) ∈ lw_tbl := List.mem_of_getElem? (i := 556) (by decide +kernel)
theorem lk_RX5_132 : Cond.methodLink RX5 132 yX0_waitedByAll ∈ lw_tbl := List.mem_of_getElem? (i := 557) (by decide +kernel)
theorem mi_X0_waitedByAll : Cond.instanceMethod yX0_waitedByAll ∈ lw_tbl := List.mem_of_getElem? (i := 558) (by decide +kernel)
theorem ml_X0_waitedByAll : Cond.selects RX0 yX0_waitedByAll yX0_waitedByAll ∈ lw_tbl := List.mem_of_getElem? (i := 559) (by decide +kernel)
theorem mc_X0_waitedByAll : Cond.code yX0_waitedByAll cX0_waitedByAll 3 (some .int) ∈ lw_tbl := List.mem_of_getElem? (i := 560) (by decide +kernel)
theorem lk_RL_72 : Cond.methodLink RL 72 yX5_downs ∈ lw_tbl := List.mem_of_getElem? (i := 561) (by decide +kernel)
theorem mi_X5_downs : Cond.instanceMethod yX5_downs ∈ lw_tbl := List.mem_of_getElem? (i := 562) (by decide +kernel)
theorem ml_X5_downs : Cond.selects RX5 yX5_downs yX5_downs ∈ lw_tbl := List.mem_of_getElem? (i := 563) (by decide +kernel)
theorem mc_X5_downs : Cond.code yX5_downs cX5_downs 1 (some .int) ∈ lw_tbl := List.mem_of_getElem? (i := 564) (by decide +kernel)
theorem lk_RL_76 : Cond.methodLink RL 76 yX5_best ∈ lw_tbl := List.mem_of_getElem? (i := 565) (by decide +kernel)
theorem mi_X5_best : Cond.instanceMethod yX5_best ∈ lw_tbl := List.mem_of_getElem? (i := 566) (by decide +kernel)
theorem ml_X5_best : Cond.selects RX5 yX5_best yX5_best ∈ lw_tbl := List.mem_of_getElem? (i := 567) (by decide +kernel)
theorem mc_X5_best : Cond.code yX5_best cX5_best 3 (some .int) ∈ lw_tbl := List.mem_of_getElem? (i := 568) (by decide +kernel)
theorem lk_RX5_141 : Cond.methodLink RX5 141 yX5_findBestOrder ∈ lw_tbl := List.mem_of_getElem? (i := 569) (by decide +kernel)
theorem mi_X5_findBestOrder : Cond.instanceMethod yX5_findBestOrder ∈ lw_tbl := List.mem_of_getElem? (i := 571) (by decide +kernel)
theorem mc_X5_findBestOrder : Cond.code yX5_findBestOrder cX5_findBestOrder 5 (some .int) ∈ lw_tbl := List.mem_of_getElem? (i := 572) (by decide +kernel)
theorem lk_RX5_183 : Cond.methodLink RX5 183 yX1_orderByNumber ∈ lw_tbl := List.mem_of_getElem? (i := 573) (by decide +kernel)
theorem mi_X1_orderByNumber : Cond.instanceMethod yX1_orderByNumber ∈ lw_tbl := List.mem_of_getElem? (i := 574) (by decide +kernel)
theorem ml_X1_orderByNumber : Cond.selects RX1 yX1_orderByNumber yX1_orderByNumber ∈ lw_tbl := List.mem_of_getElem? (i := 575) (by decide +kernel)
theorem mc_X1_orderByNumber : Cond.code yX1_orderByNumber cX1_orderByNumber 2 none ∈ lw_tbl := List.mem_of_getElem? (i := 576) (by decide +kernel)
theorem lk_RX5_147 : Cond.methodLink RX5 147 yX5_waitedOnTrial ∈ lw_tbl := List.mem_of_getElem? (i := 577) (by decide +kernel)
theorem mi_X5_waitedOnTrial : Cond.instanceMethod yX5_waitedOnTrial ∈ lw_tbl := List.mem_of_getElem? (i := 579) (by decide +kernel)
theorem mc_X5_waitedOnTrial : Cond.code yX5_waitedOnTrial cX5_waitedOnTrial 1 (some .int) ∈ lw_tbl := List.mem_of_getElem? (i := 580) (by decide +kernel)
theorem lk_RX5_189 : Cond.methodLink RX5 189 arraycopyName ∈ lw_tbl := List.mem_of_getElem? (i := 581) (by decide +kernel)
theorem lk_RX5_195 : Cond.methodLink RX5 195 yX1_goToNextOrder ∈ lw_tbl := List.mem_of_getElem? (i := 582) (by decide +kernel)
theorem mi_X1_goToNextOrder : Cond.instanceMethod yX1_goToNextOrder ∈ lw_tbl := List.mem_of_getElem? (i := 583) (by decide +kernel)
theorem ml_X1_goToNextOrder : Cond.selects RX1 yX1_goToNextOrder yX1_goToNextOrder ∈ lw_tbl := List.mem_of_getElem? (i := 584) (by decide +kernel)
theorem mc_X1_goToNextOrder : Cond.code yX1_goToNextOrder cX1_goToNextOrder 5 (some .boolean) ∈ lw_tbl := List.mem_of_getElem? (i := 585) (by decide +kernel)
theorem lk_RX1_61 : Cond.methodLink RX1 61 yX1_swapInOrder ∈ lw_tbl := List.mem_of_getElem? (i := 586) (by decide +kernel)
theorem mi_X1_swapInOrder : Cond.instanceMethod yX1_swapInOrder ∈ lw_tbl := List.mem_of_getElem? (i := 588) (by decide +kernel)
theorem mc_X1_swapInOrder : Cond.code yX1_swapInOrder cX1_swapInOrder 4 none ∈ lw_tbl := List.mem_of_getElem? (i := 589) (by decide +kernel)
theorem lk_RL_80 : Cond.methodLink RL 80 yX5_fewest ∈ lw_tbl := List.mem_of_getElem? (i := 590) (by decide +kernel)
theorem mi_X5_fewest : Cond.instanceMethod yX5_fewest ∈ lw_tbl := List.mem_of_getElem? (i := 591) (by decide +kernel)
theorem ml_X5_fewest : Cond.selects RX5 yX5_fewest yX5_fewest ∈ lw_tbl := List.mem_of_getElem? (i := 592) (by decide +kernel)
theorem mc_X5_fewest : Cond.code yX5_fewest cX5_fewest 3 (some .int) ∈ lw_tbl := List.mem_of_getElem? (i := 593) (by decide +kernel)
theorem lk_RL_84 : Cond.methodLink RL 84 yX5_which ∈ lw_tbl := List.mem_of_getElem? (i := 594) (by decide +kernel)
theorem mi_X5_which : Cond.instanceMethod yX5_which ∈ lw_tbl := List.mem_of_getElem? (i := 595) (by decide +kernel)
theorem ml_X5_which : Cond.selects RX5 yX5_which yX5_which ∈ lw_tbl := List.mem_of_getElem? (i := 596) (by decide +kernel)
theorem mc_X5_which : Cond.code yX5_which cX5_which 5 (some .int) ∈ lw_tbl := List.mem_of_getElem? (i := 597) (by decide +kernel)
theorem lk_RL_88 : Cond.methodLink RL 88 yX5_edge ∈ lw_tbl := List.mem_of_getElem? (i := 598) (by decide +kernel)
theorem mi_X5_edge : Cond.instanceMethod yX5_edge ∈ lw_tbl := List.mem_of_getElem? (i := 599) (by decide +kernel)
theorem ml_X5_edge : Cond.selects RX5 yX5_edge yX5_edge ∈ lw_tbl := List.mem_of_getElem? (i := 600) (by decide +kernel)
theorem mc_X5_edge : Cond.code yX5_edge cX5_edge 3 (some .int) ∈ lw_tbl := List.mem_of_getElem? (i := 601) (by decide +kernel)
theorem lk_RL_92 : Cond.methodLink RL 92 yX5_chance ∈ lw_tbl := List.mem_of_getElem? (i := 602) (by decide +kernel)
theorem mi_X5_chance : Cond.instanceMethod yX5_chance ∈ lw_tbl := List.mem_of_getElem? (i := 603) (by decide +kernel)
theorem ml_X5_chance : Cond.selects RX5 yX5_chance yX5_chance ∈ lw_tbl := List.mem_of_getElem? (i := 604) (by decide +kernel)
theorem mc_X5_chance : Cond.code yX5_chance cX5_chance 4 (some .int) ∈ lw_tbl := List.mem_of_getElem? (i := 605) (by decide +kernel)
theorem lk_RL_96 : Cond.methodLink RL 96 yX5_heaviest ∈ lw_tbl := List.mem_of_getElem? (i := 606) (by decide +kernel)
theorem mi_X5_heaviest : Cond.instanceMethod yX5_heaviest ∈ lw_tbl := List.mem_of_getElem? (i := 607) (by decide +kernel)
theorem ml_X5_heaviest : Cond.selects RX5 yX5_heaviest yX5_heaviest ∈ lw_tbl := List.mem_of_getElem? (i := 608) (by decide +kernel)
theorem mc_X5_heaviest : Cond.code yX5_heaviest cX5_heaviest 1 (some .int) ∈ lw_tbl := List.mem_of_getElem? (i := 609) (by decide +kernel)
theorem lk_RX5_153 : Cond.methodLink RX5 153 yX0_weightBegun ∈ lw_tbl := List.mem_of_getElem? (i := 610) (by decide +kernel)
theorem mi_X0_weightBegun : Cond.instanceMethod yX0_weightBegun ∈ lw_tbl := List.mem_of_getElem? (i := 611) (by decide +kernel)
theorem ml_X0_weightBegun : Cond.selects RX0 yX0_weightBegun yX0_weightBegun ∈ lw_tbl := List.mem_of_getElem? (i := 612) (by decide +kernel)
theorem mc_X0_weightBegun : Cond.code yX0_weightBegun cX0_weightBegun 3 (some .int) ∈ lw_tbl := List.mem_of_getElem? (i := 613) (by decide +kernel)
theorem lk_RL_100 : Cond.methodLink RL 100 yX5_yard ∈ lw_tbl := List.mem_of_getElem? (i := 614) (by decide +kernel)
theorem mi_X5_yard : Cond.instanceMethod yX5_yard ∈ lw_tbl := List.mem_of_getElem? (i := 615) (by decide +kernel)
theorem ml_X5_yard : Cond.selects RX5 yX5_yard yX5_yard ∈ lw_tbl := List.mem_of_getElem? (i := 616) (by decide +kernel)
theorem mc_X5_yard : Cond.code yX5_yard cX5_yard 5 (some .int) ∈ lw_tbl := List.mem_of_getElem? (i := 617) (by decide +kernel)
theorem lk_RX5_156 : Cond.methodLink RX5 156 yX1_makeAllWeigh ∈ lw_tbl := List.mem_of_getElem? (i := 618) (by decide +kernel)
theorem mi_X1_makeAllWeigh : Cond.instanceMethod yX1_makeAllWeigh ∈ lw_tbl := List.mem_of_getElem? (i := 619) (by decide +kernel)
theorem ml_X1_makeAllWeigh : Cond.selects RX1 yX1_makeAllWeigh yX1_makeAllWeigh ∈ lw_tbl := List.mem_of_getElem? (i := 620) (by decide +kernel)
theorem mc_X1_makeAllWeigh : Cond.code yX1_makeAllWeigh cX1_makeAllWeigh 3 none ∈ lw_tbl := List.mem_of_getElem? (i := 621) (by decide +kernel)
theorem lk_RL_104 : Cond.methodLink RL 104 yX5_row ∈ lw_tbl := List.mem_of_getElem? (i := 622) (by decide +kernel)
theorem mi_X5_row : Cond.instanceMethod yX5_row ∈ lw_tbl := List.mem_of_getElem? (i := 623) (by decide +kernel)
theorem ml_X5_row : Cond.selects RX5 yX5_row yX5_row ∈ lw_tbl := List.mem_of_getElem? (i := 624) (by decide +kernel)
theorem mc_X5_row : Cond.code yX5_row cX5_row 2 (some .int) ∈ lw_tbl := List.mem_of_getElem? (i := 625) (by decide +kernel)
theorem lk_RX5_161 : Cond.methodLink RX5 161 yX2_add ∈ lw_tbl := List.mem_of_getElem? (i := 626) (by decide +kernel)
theorem mi_X2_add : Cond.instanceMethod yX2_add ∈ lw_tbl := List.mem_of_getElem? (i := 627) (by decide +kernel)
theorem ml_X2_add : Cond.selects RX2 yX2_add yX2_add ∈ lw_tbl := List.mem_of_getElem? (i := 628) (by decide +kernel)
theorem mc_X2_add : Cond.code yX2_add cX2_add 2 none ∈ lw_tbl := List.mem_of_getElem? (i := 629) (by decide +kernel)
theorem lk_RL_108 : Cond.methodLink RL 108 yX5_judge ∈ lw_tbl := List.mem_of_getElem? (i := 630) (by decide +kernel)
theorem mi_X5_judge : Cond.instanceMethod yX5_judge ∈ lw_tbl := List.mem_of_getElem? (i := 631) (by decide +kernel)
theorem ml_X5_judge : Cond.selects RX5 yX5_judge yX5_judge ∈ lw_tbl := List.mem_of_getElem? (i := 632) (by decide +kernel)
theorem mc_X5_judge : Cond.code yX5_judge cX5_judge 2 (some .int) ∈ lw_tbl := List.mem_of_getElem? (i := 633) (by decide +kernel)
theorem lk_RX5_164 : Cond.methodLink RX5 164 yX2_lookAt ∈ lw_tbl := List.mem_of_getElem? (i := 634) (by decide +kernel)
theorem mi_X2_lookAt : Cond.instanceMethod yX2_lookAt ∈ lw_tbl := List.mem_of_getElem? (i := 635) (by decide +kernel)
theorem ml_X2_lookAt : Cond.selects RX2 yX2_lookAt yX2_lookAt ∈ lw_tbl := List.mem_of_getElem? (i := 636) (by decide +kernel)
theorem mc_X2_lookAt : Cond.code yX2_lookAt cX2_lookAt 4 none ∈ lw_tbl := List.mem_of_getElem? (i := 637) (by decide +kernel)
theorem lk_RX2_35 : Cond.methodLink RX2 35 yX4_start ∈ lw_tbl := List.mem_of_getElem? (i := 638) (by decide +kernel)
theorem lk_RX2_39 : Cond.methodLink RX2 39 yX2_canFrom ∈ lw_tbl := List.mem_of_getElem? (i := 639) (by decide +kernel)
theorem mi_X2_canFrom : Cond.instanceMethod yX2_canFrom ∈ lw_tbl := List.mem_of_getElem? (i := 641) (by decide +kernel)
theorem mc_X2_canFrom : Cond.code yX2_canFrom cX2_canFrom 4 (some .int) ∈ lw_tbl := List.mem_of_getElem? (i := 642) (by decide +kernel)
theorem lk_RX2_56 : Cond.methodLink RX2 56 yX1_hasTrain ∈ lw_tbl := List.mem_of_getElem? (i := 643) (by decide +kernel)
theorem ck_RX2_62 : Cond.constant RX2 62 1000000 ∈ lw_tbl := List.mem_of_getElem? (i := 644) (by decide +kernel)
theorem lk_RX2_66 : Cond.methodLink RX2 66 yX1_kindOf ∈ lw_tbl := List.mem_of_getElem? (i := 645) (by decide +kernel)
theorem lk_RX2_43 : Cond.methodLink RX2 43 Lib.Math.max.name ∈ lw_tbl := List.mem_of_getElem? (i := 646) (by decide +kernel)
theorem lk_RX2_49 : Cond.methodLink RX2 49 yX2_begin ∈ lw_tbl := List.mem_of_getElem? (i := 647) (by decide +kernel)
theorem mi_X2_begin : Cond.instanceMethod yX2_begin ∈ lw_tbl := List.mem_of_getElem? (i := 649) (by decide +kernel)
theorem mc_X2_begin : Cond.code yX2_begin cX2_begin 4 none ∈ lw_tbl := List.mem_of_getElem? (i := 650) (by decide +kernel)
theorem lk_RX2_76 : Cond.methodLink RX2 76 yX4_comeDown ∈ lw_tbl := List.mem_of_getElem? (i := 651) (by decide +kernel)
theorem lk_RX2_80 : Cond.methodLink RX2 80 yX4_goUp ∈ lw_tbl := List.mem_of_getElem? (i := 652) (by decide +kernel)
theorem lk_RL_112 : Cond.methodLink RL 112 yX5_image ∈ lw_tbl := List.mem_of_getElem? (i := 653) (by decide +kernel)
theorem mi_X5_image : Cond.instanceMethod yX5_image ∈ lw_tbl := List.mem_of_getElem? (i := 654) (by decide +kernel)
theorem ml_X5_image : Cond.selects RX5 yX5_image yX5_image ∈ lw_tbl := List.mem_of_getElem? (i := 655) (by decide +kernel)
theorem mc_X5_image : Cond.code yX5_image cX5_image 1 (some .int) ∈ lw_tbl := List.mem_of_getElem? (i := 656) (by decide +kernel)
theorem lk_RL_116 : Cond.methodLink RL 116 yX5_on ∈ lw_tbl := List.mem_of_getElem? (i := 657) (by decide +kernel)
theorem mi_X5_on : Cond.instanceMethod yX5_on ∈ lw_tbl := List.mem_of_getElem? (i := 658) (by decide +kernel)
theorem ml_X5_on : Cond.selects RX5 yX5_on yX5_on ∈ lw_tbl := List.mem_of_getElem? (i := 659) (by decide +kernel)
theorem mc_X5_on : Cond.code yX5_on cX5_on 1 (some .int) ∈ lw_tbl := List.mem_of_getElem? (i := 660) (by decide +kernel)
theorem lk_RL_120 : Cond.methodLink RL 120 yX5_count ∈ lw_tbl := List.mem_of_getElem? (i := 661) (by decide +kernel)
theorem mi_X5_count : Cond.instanceMethod yX5_count ∈ lw_tbl := List.mem_of_getElem? (i := 662) (by decide +kernel)
theorem ml_X5_count : Cond.selects RX5 yX5_count yX5_count ∈ lw_tbl := List.mem_of_getElem? (i := 663) (by decide +kernel)
theorem mc_X5_count : Cond.code yX5_count cX5_count 2 (some .int) ∈ lw_tbl := List.mem_of_getElem? (i := 664) (by decide +kernel)
theorem lk_RX5_177 : Cond.methodLink RX5 177 yX1_singles ∈ lw_tbl := List.mem_of_getElem? (i := 665) (by decide +kernel)
theorem lk_RX5_180 : Cond.methodLink RX5 180 yX0_trainsBegun ∈ lw_tbl := List.mem_of_getElem? (i := 666) (by decide +kernel)
theorem mi_X0_trainsBegun : Cond.instanceMethod yX0_trainsBegun ∈ lw_tbl := List.mem_of_getElem? (i := 667) (by decide +kernel)
theorem ml_X0_trainsBegun : Cond.selects RX0 yX0_trainsBegun yX0_trainsBegun ∈ lw_tbl := List.mem_of_getElem? (i := 668) (by decide +kernel)
theorem mc_X0_trainsBegun : Cond.code yX0_trainsBegun cX0_trainsBegun 3 (some .int) ∈ lw_tbl := List.mem_of_getElem? (i := 669) (by decide +kernel)
theorem cl_RL_10 : Cond.classLink RL 10 RX6 ∈ lw_tbl := List.mem_of_getElem? (i := 670) (by decide +kernel)
theorem it_RX6 : Cond.instantiable RX6 23 ∈ lw_tbl := List.mem_of_getElem? (i := 671) (by decide +kernel)
theorem lk_RL_12 : Cond.methodLink RL 12 yX6_init ∈ lw_tbl := List.mem_of_getElem? (i := 672) (by decide +kernel)
theorem mi_X6_init : Cond.instanceMethod yX6_init ∈ lw_tbl := List.mem_of_getElem? (i := 673) (by decide +kernel)
theorem mc_X6_init : Cond.code yX6_init cX6_init 1 none ∈ lw_tbl := List.mem_of_getElem? (i := 674) (by decide +kernel)
theorem lk_RX6_1 : Cond.methodLink RX6 1 objectInit ∈ lw_tbl := List.mem_of_getElem? (i := 675) (by decide +kernel)
theorem fk_RX6_7 : Cond.fieldLink RX6 7 RX6 (TX6 0).2.1 (TX6 0).2.2.1 ∈ lw_tbl := List.mem_of_getElem? (i := 676) (by decide +kernel)
theorem fk_RX6_13 : Cond.fieldLink RX6 13 RX6 (TX6 1).2.1 (TX6 1).2.2.1 ∈ lw_tbl := List.mem_of_getElem? (i := 677) (by decide +kernel)
theorem fk_RX6_16 : Cond.fieldLink RX6 16 RX6 (TX6 2).2.1 (TX6 2).2.2.1 ∈ lw_tbl := List.mem_of_getElem? (i := 678) (by decide +kernel)
theorem fk_RX6_19 : Cond.fieldLink RX6 19 RX6 (TX6 3).2.1 (TX6 3).2.2.1 ∈ lw_tbl := List.mem_of_getElem? (i := 679) (by decide +kernel)
theorem fk_RX6_214 : Cond.fieldLink RX6 214 RX6 (TX6 4).2.1 (TX6 4).2.2.1 ∈ lw_tbl := List.mem_of_getElem? (i := 680) (by decide +kernel)
theorem fk_RX6_22 : Cond.fieldLink RX6 22 RX6 (TX6 5).2.1 (TX6 5).2.2.1 ∈ lw_tbl := List.mem_of_getElem? (i := 681) (by decide +kernel)
theorem fk_RX6_25 : Cond.fieldLink RX6 25 RX6 (TX6 6).2.1 (TX6 6).2.2.1 ∈ lw_tbl := List.mem_of_getElem? (i := 682) (by decide +kernel)
theorem fk_RX6_54 : Cond.fieldLink RX6 54 RX6 (TX6 7).2.1 (TX6 7).2.2.1 ∈ lw_tbl := List.mem_of_getElem? (i := 683) (by decide +kernel)
theorem fk_RX6_60 : Cond.fieldLink RX6 60 RX6 (TX6 8).2.1 (TX6 8).2.2.1 ∈ lw_tbl := List.mem_of_getElem? (i := 684) (by decide +kernel)
theorem fk_RX6_28 : Cond.fieldLink RX6 28 RX6 (TX6 9).2.1 (TX6 9).2.2.1 ∈ lw_tbl := List.mem_of_getElem? (i := 685) (by decide +kernel)
theorem fk_RX6_31 : Cond.fieldLink RX6 31 RX6 (TX6 10).2.1 (TX6 10).2.2.1 ∈ lw_tbl := List.mem_of_getElem? (i := 686) (by decide +kernel)
theorem fk_RX6_34 : Cond.fieldLink RX6 34 RX6 (TX6 11).2.1 (TX6 11).2.2.1 ∈ lw_tbl := List.mem_of_getElem? (i := 687) (by decide +kernel)
theorem fk_RX6_121 : Cond.fieldLink RX6 121 RX6 (TX6 12).2.1 (TX6 12).2.2.1 ∈ lw_tbl := List.mem_of_getElem? (i := 688) (by decide +kernel)
theorem fk_RX6_124 : Cond.fieldLink RX6 124 RX6 (TX6 13).2.1 (TX6 13).2.2.1 ∈ lw_tbl := List.mem_of_getElem? (i := 689) (by decide +kernel)
theorem fk_RX6_127 : Cond.fieldLink RX6 127 RX6 (TX6 14).2.1 (TX6 14).2.2.1 ∈ lw_tbl := List.mem_of_getElem? (i := 690) (by decide +kernel)
theorem fk_RX6_130 : Cond.fieldLink RX6 130 RX6 (TX6 15).2.1 (TX6 15).2.2.1 ∈ lw_tbl := List.mem_of_getElem? (i := 691) (by decide +kernel)
theorem fk_RX6_133 : Cond.fieldLink RX6 133 RX6 (TX6 16).2.1 (TX6 16).2.2.1 ∈ lw_tbl := List.mem_of_getElem? (i := 692) (by decide +kernel)
theorem fk_RX6_136 : Cond.fieldLink RX6 136 RX6 (TX6 17).2.1 (TX6 17).2.2.1 ∈ lw_tbl := List.mem_of_getElem? (i := 693) (by decide +kernel)
theorem fk_RX6_37 : Cond.fieldLink RX6 37 RX6 (TX6 18).2.1 (TX6 18).2.2.1 ∈ lw_tbl := List.mem_of_getElem? (i := 694) (by decide +kernel)
theorem fk_RX6_40 : Cond.fieldLink RX6 40 RX6 (TX6 19).2.1 (TX6 19).2.2.1 ∈ lw_tbl := List.mem_of_getElem? (i := 695) (by decide +kernel)
theorem fk_RX6_192 : Cond.fieldLink RX6 192 RX6 (TX6 20).2.1 (TX6 20).2.2.1 ∈ lw_tbl := List.mem_of_getElem? (i := 696) (by decide +kernel)
theorem fk_RX6_43 : Cond.fieldLink RX6 43 RX6 (TX6 21).2.1 (TX6 21).2.2.1 ∈ lw_tbl := List.mem_of_getElem? (i := 697) (by decide +kernel)
theorem fk_RX6_207 : Cond.fieldLink RX6 207 RX6 (TX6 22).2.1 (TX6 22).2.2.1 ∈ lw_tbl := List.mem_of_getElem? (i := 698) (by decide +kernel)
theorem lk_RL_19 : Cond.methodLink RL 19 yX6_feed ∈ lw_tbl := List.mem_of_getElem? (i := 746) (by decide +kernel)
theorem mi_X6_feed : Cond.instanceMethod yX6_feed ∈ lw_tbl := List.mem_of_getElem? (i := 747) (by decide +kernel)
theorem ml_X6_feed : Cond.selects RX6 yX6_feed yX6_feed ∈ lw_tbl := List.mem_of_getElem? (i := 748) (by decide +kernel)
theorem mc_X6_feed : Cond.code yX6_feed cX6_feed 5 (some .int) ∈ lw_tbl := List.mem_of_getElem? (i := 749) (by decide +kernel)
theorem lk_RX6_50 : Cond.methodLink RX6 50 yX6_refuse ∈ lw_tbl := List.mem_of_getElem? (i := 750) (by decide +kernel)
theorem mi_X6_refuse : Cond.instanceMethod yX6_refuse ∈ lw_tbl := List.mem_of_getElem? (i := 752) (by decide +kernel)
theorem mc_X6_refuse : Cond.code yX6_refuse cX6_refuse 2 (some .int) ∈ lw_tbl := List.mem_of_getElem? (i := 753) (by decide +kernel)
theorem ck_RX6_58 : Cond.constantLong RX6 58 255 ∈ lw_tbl := List.mem_of_getElem? (i := 754) (by decide +kernel)
theorem lk_RL_24 : Cond.methodLink RL 24 yX6_line ∈ lw_tbl := List.mem_of_getElem? (i := 755) (by decide +kernel)
theorem mi_X6_line : Cond.instanceMethod yX6_line ∈ lw_tbl := List.mem_of_getElem? (i := 756) (by decide +kernel)
theorem ml_X6_line : Cond.selects RX6 yX6_line yX6_line ∈ lw_tbl := List.mem_of_getElem? (i := 757) (by decide +kernel)
theorem mc_X6_line : Cond.code yX6_line cX6_line 2 (some .int) ∈ lw_tbl := List.mem_of_getElem? (i := 758) (by decide +kernel)
theorem lk_RX6_84 : Cond.methodLink RX6 84 yX6_reads ∈ lw_tbl := List.mem_of_getElem? (i := 759) (by decide +kernel)
theorem mi_X6_reads : Cond.instanceMethod yX6_reads ∈ lw_tbl := List.mem_of_getElem? (i := 761) (by decide +kernel)
theorem mc_X6_reads : Cond.code yX6_reads cX6_reads 5 (some .int) ∈ lw_tbl := List.mem_of_getElem? (i := 762) (by decide +kernel)
theorem lk_RX6_78 : Cond.methodLink RX6 78 yX6_readsStatement ∈ lw_tbl := List.mem_of_getElem? (i := 763) (by decide +kernel)
theorem mi_X6_readsStatement : Cond.instanceMethod yX6_readsStatement ∈ lw_tbl := List.mem_of_getElem? (i := 765) (by decide +kernel)
theorem mc_X6_readsStatement : Cond.code yX6_readsStatement cX6_readsStatement 2 (some .boolean) ∈ lw_tbl := List.mem_of_getElem? (i := 766) (by decide +kernel)
theorem lk_RX6_63 : Cond.methodLink RX6 63 yX6_sign ∈ lw_tbl := List.mem_of_getElem? (i := 767) (by decide +kernel)
theorem mi_X6_sign : Cond.instanceMethod yX6_sign ∈ lw_tbl := List.mem_of_getElem? (i := 769) (by decide +kernel)
theorem mc_X6_sign : Cond.code yX6_sign cX6_sign 1 (some .int) ∈ lw_tbl := List.mem_of_getElem? (i := 770) (by decide +kernel)
theorem lk_RX6_71 : Cond.methodLink RX6 71 yX6_readsNumber ∈ lw_tbl := List.mem_of_getElem? (i := 771) (by decide +kernel)
theorem mi_X6_readsNumber : Cond.instanceMethod yX6_readsNumber ∈ lw_tbl := List.mem_of_getElem? (i := 773) (by decide +kernel)
theorem mc_X6_readsNumber : Cond.code yX6_readsNumber cX6_readsNumber 4 (some .boolean) ∈ lw_tbl := List.mem_of_getElem? (i := 774) (by decide +kernel)
theorem lk_RX6_67 : Cond.methodLink RX6 67 yX6_isDigit ∈ lw_tbl := List.mem_of_getElem? (i := 775) (by decide +kernel)
theorem mi_X6_isDigit : Cond.instanceMethod yX6_isDigit ∈ lw_tbl := List.mem_of_getElem? (i := 777) (by decide +kernel)
theorem mc_X6_isDigit : Cond.code yX6_isDigit cX6_isDigit 1 (some .boolean) ∈ lw_tbl := List.mem_of_getElem? (i := 778) (by decide +kernel)
theorem lk_RX6_74 : Cond.methodLink RX6 74 yX6_takesSign ∈ lw_tbl := List.mem_of_getElem? (i := 779) (by decide +kernel)
theorem mi_X6_takesSign : Cond.instanceMethod yX6_takesSign ∈ lw_tbl := List.mem_of_getElem? (i := 781) (by decide +kernel)
theorem mc_X6_takesSign : Cond.code yX6_takesSign cX6_takesSign 2 (some .boolean) ∈ lw_tbl := List.mem_of_getElem? (i := 782) (by decide +kernel)
theorem lk_RX6_81 : Cond.methodLink RX6 81 yX6_comes ∈ lw_tbl := List.mem_of_getElem? (i := 783) (by decide +kernel)
theorem mi_X6_comes : Cond.instanceMethod yX6_comes ∈ lw_tbl := List.mem_of_getElem? (i := 785) (by decide +kernel)
theorem mc_X6_comes : Cond.code yX6_comes cX6_comes 5 (some .boolean) ∈ lw_tbl := List.mem_of_getElem? (i := 786) (by decide +kernel)
theorem lk_RL_29 : Cond.methodLink RL 29 yX6_piece ∈ lw_tbl := List.mem_of_getElem? (i := 787) (by decide +kernel)
theorem mi_X6_piece : Cond.instanceMethod yX6_piece ∈ lw_tbl := List.mem_of_getElem? (i := 788) (by decide +kernel)
theorem ml_X6_piece : Cond.selects RX6 yX6_piece yX6_piece ∈ lw_tbl := List.mem_of_getElem? (i := 789) (by decide +kernel)
theorem mc_X6_piece : Cond.code yX6_piece cX6_piece 3 (some .int) ∈ lw_tbl := List.mem_of_getElem? (i := 790) (by decide +kernel)
theorem lk_RX6_87 : Cond.methodLink RX6 87 yX6_isPiece ∈ lw_tbl := List.mem_of_getElem? (i := 791) (by decide +kernel)
theorem mi_X6_isPiece : Cond.instanceMethod yX6_isPiece ∈ lw_tbl := List.mem_of_getElem? (i := 793) (by decide +kernel)
theorem mc_X6_isPiece : Cond.code yX6_isPiece cX6_isPiece 2 (some .boolean) ∈ lw_tbl := List.mem_of_getElem? (i := 794) (by decide +kernel)
theorem lk_RX6_46 : Cond.methodLink RX6 46 yX6_isIn ∈ lw_tbl := List.mem_of_getElem? (i := 795) (by decide +kernel)
theorem ms_X6_isIn : Cond.static yX6_isIn ∈ lw_tbl := List.mem_of_getElem? (i := 796) (by decide +kernel)
theorem mc_X6_isIn : Cond.code yX6_isIn cX6_isIn 2 (some .boolean) ∈ lw_tbl := List.mem_of_getElem? (i := 797) (by decide +kernel)
theorem lk_RL_33 : Cond.methodLink RL 33 yX6_train ∈ lw_tbl := List.mem_of_getElem? (i := 798) (by decide +kernel)
theorem mi_X6_train : Cond.instanceMethod yX6_train ∈ lw_tbl := List.mem_of_getElem? (i := 799) (by decide +kernel)
theorem ml_X6_train : Cond.selects RX6 yX6_train yX6_train ∈ lw_tbl := List.mem_of_getElem? (i := 800) (by decide +kernel)
theorem mc_X6_train : Cond.code yX6_train cX6_train 3 (some .int) ∈ lw_tbl := List.mem_of_getElem? (i := 801) (by decide +kernel)
theorem lk_RX6_90 : Cond.methodLink RX6 90 yX6_isTrain ∈ lw_tbl := List.mem_of_getElem? (i := 802) (by decide +kernel)
theorem mi_X6_isTrain : Cond.instanceMethod yX6_isTrain ∈ lw_tbl := List.mem_of_getElem? (i := 804) (by decide +kernel)
theorem mc_X6_isTrain : Cond.code yX6_isTrain cX6_isTrain 2 (some .boolean) ∈ lw_tbl := List.mem_of_getElem? (i := 805) (by decide +kernel)
theorem lk_RL_37 : Cond.methodLink RL 37 yX6_set ∈ lw_tbl := List.mem_of_getElem? (i := 806) (by decide +kernel)
theorem mi_X6_set : Cond.instanceMethod yX6_set ∈ lw_tbl := List.mem_of_getElem? (i := 807) (by decide +kernel)
theorem ml_X6_set : Cond.selects RX6 yX6_set yX6_set ∈ lw_tbl := List.mem_of_getElem? (i := 808) (by decide +kernel)
theorem mc_X6_set : Cond.code yX6_set cX6_set 5 (some .int) ∈ lw_tbl := List.mem_of_getElem? (i := 809) (by decide +kernel)
theorem lk_RX6_93 : Cond.methodLink RX6 93 yX6_least ∈ lw_tbl := List.mem_of_getElem? (i := 810) (by decide +kernel)
theorem ms_X6_least : Cond.static yX6_least ∈ lw_tbl := List.mem_of_getElem? (i := 811) (by decide +kernel)
theorem mc_X6_least : Cond.code yX6_least cX6_least 1 (some .int) ∈ lw_tbl := List.mem_of_getElem? (i := 812) (by decide +kernel)
theorem lk_RX6_96 : Cond.methodLink RX6 96 yX6_most ∈ lw_tbl := List.mem_of_getElem? (i := 813) (by decide +kernel)
theorem ms_X6_most : Cond.static yX6_most ∈ lw_tbl := List.mem_of_getElem? (i := 814) (by decide +kernel)
theorem mc_X6_most : Cond.code yX6_most cX6_most 1 (some .int) ∈ lw_tbl := List.mem_of_getElem? (i := 815) (by decide +kernel)
theorem lk_RX6_99 : Cond.methodLink RX6 99 yX6_within ∈ lw_tbl := List.mem_of_getElem? (i := 816) (by decide +kernel)
theorem ms_X6_within : Cond.static yX6_within ∈ lw_tbl := List.mem_of_getElem? (i := 817) (by decide +kernel)
theorem mc_X6_within : Cond.code yX6_within cX6_within 3 (some .int) ∈ lw_tbl := List.mem_of_getElem? (i := 818) (by decide +kernel)
theorem lk_RL_42 : Cond.methodLink RL 42 yX6_makeDouble ∈ lw_tbl := List.mem_of_getElem? (i := 819) (by decide +kernel)
theorem mi_X6_makeDouble : Cond.instanceMethod yX6_makeDouble ∈ lw_tbl := List.mem_of_getElem? (i := 820) (by decide +kernel)
theorem ml_X6_makeDouble : Cond.selects RX6 yX6_makeDouble yX6_makeDouble ∈ lw_tbl := List.mem_of_getElem? (i := 821) (by decide +kernel)
theorem mc_X6_makeDouble : Cond.code yX6_makeDouble cX6_makeDouble 4 (some .int) ∈ lw_tbl := List.mem_of_getElem? (i := 822) (by decide +kernel)
theorem lk_RL_46 : Cond.methodLink RL 46 yX6_order ∈ lw_tbl := List.mem_of_getElem? (i := 823) (by decide +kernel)
theorem mi_X6_order : Cond.instanceMethod yX6_order ∈ lw_tbl := List.mem_of_getElem? (i := 824) (by decide +kernel)
theorem ml_X6_order : Cond.selects RX6 yX6_order yX6_order ∈ lw_tbl := List.mem_of_getElem? (i := 825) (by decide +kernel)
theorem mc_X6_order : Cond.code yX6_order cX6_order 8 (some .int) ∈ lw_tbl := List.mem_of_getElem? (i := 826) (by decide +kernel)
theorem lk_RL_51 : Cond.methodLink RL 51 yX6_climbs ∈ lw_tbl := List.mem_of_getElem? (i := 827) (by decide +kernel)
theorem mi_X6_climbs : Cond.instanceMethod yX6_climbs ∈ lw_tbl := List.mem_of_getElem? (i := 828) (by decide +kernel)
theorem ml_X6_climbs : Cond.selects RX6 yX6_climbs yX6_climbs ∈ lw_tbl := List.mem_of_getElem? (i := 829) (by decide +kernel)
theorem mc_X6_climbs : Cond.code yX6_climbs cX6_climbs 2 (some .int) ∈ lw_tbl := List.mem_of_getElem? (i := 830) (by decide +kernel)
theorem lk_RX6_112 : Cond.methodLink RX6 112 yX6_kindOf ∈ lw_tbl := List.mem_of_getElem? (i := 831) (by decide +kernel)
theorem mi_X6_kindOf : Cond.instanceMethod yX6_kindOf ∈ lw_tbl := List.mem_of_getElem? (i := 833) (by decide +kernel)
theorem mc_X6_kindOf : Cond.code yX6_kindOf cX6_kindOf 2 (some .int) ∈ lw_tbl := List.mem_of_getElem? (i := 834) (by decide +kernel)
theorem lk_RX6_106 : Cond.methodLink RX6 106 yX6_weight ∈ lw_tbl := List.mem_of_getElem? (i := 835) (by decide +kernel)
theorem mi_X6_weight : Cond.instanceMethod yX6_weight ∈ lw_tbl := List.mem_of_getElem? (i := 837) (by decide +kernel)
theorem mc_X6_weight : Cond.code yX6_weight cX6_weight 2 (some .int) ∈ lw_tbl := List.mem_of_getElem? (i := 838) (by decide +kernel)
theorem lk_RX6_109 : Cond.methodLink RX6 109 yX6_kindBy ∈ lw_tbl := List.mem_of_getElem? (i := 839) (by decide +kernel)
theorem mi_X6_kindBy : Cond.instanceMethod yX6_kindBy ∈ lw_tbl := List.mem_of_getElem? (i := 841) (by decide +kernel)
theorem mc_X6_kindBy : Cond.code yX6_kindBy cX6_kindBy 2 (some .int) ∈ lw_tbl := List.mem_of_getElem? (i := 842) (by decide +kernel)
theorem lk_RX6_103 : Cond.methodLink RX6 103 yX6_edgeBy ∈ lw_tbl := List.mem_of_getElem? (i := 843) (by decide +kernel)
theorem mi_X6_edgeBy : Cond.instanceMethod yX6_edgeBy ∈ lw_tbl := List.mem_of_getElem? (i := 845) (by decide +kernel)
theorem mc_X6_edgeBy : Cond.code yX6_edgeBy cX6_edgeBy 2 (some .int) ∈ lw_tbl := List.mem_of_getElem? (i := 846) (by decide +kernel)
theorem lk_RL_59 : Cond.methodLink RL 59 yX6_base ∈ lw_tbl := List.mem_of_getElem? (i := 847) (by decide +kernel)
theorem mi_X6_base : Cond.instanceMethod yX6_base ∈ lw_tbl := List.mem_of_getElem? (i := 848) (by decide +kernel)
theorem ml_X6_base : Cond.selects RX6 yX6_base yX6_base ∈ lw_tbl := List.mem_of_getElem? (i := 849) (by decide +kernel)
theorem mc_X6_base : Cond.code yX6_base cX6_base 1 (some .int) ∈ lw_tbl := List.mem_of_getElem? (i := 850) (by decide +kernel)
theorem lk_RX6_115 : Cond.methodLink RX6 115 yX6_baseOf ∈ lw_tbl := List.mem_of_getElem? (i := 851) (by decide +kernel)
theorem mi_X6_baseOf : Cond.instanceMethod yX6_baseOf ∈ lw_tbl := List.mem_of_getElem? (i := 853) (by decide +kernel)
theorem mc_X6_baseOf : Cond.code yX6_baseOf cX6_baseOf 3 (some .int) ∈ lw_tbl := List.mem_of_getElem? (i := 854) (by decide +kernel)
theorem lk_RL_55 : Cond.methodLink RL 55 yX6_takes ∈ lw_tbl := List.mem_of_getElem? (i := 855) (by decide +kernel)
theorem mi_X6_takes : Cond.instanceMethod yX6_takes ∈ lw_tbl := List.mem_of_getElem? (i := 856) (by decide +kernel)
theorem ml_X6_takes : Cond.selects RX6 yX6_takes yX6_takes ∈ lw_tbl := List.mem_of_getElem? (i := 857) (by decide +kernel)
theorem mc_X6_takes : Cond.code yX6_takes cX6_takes 2 (some .int) ∈ lw_tbl := List.mem_of_getElem? (i := 858) (by decide +kernel)
theorem lk_RX6_118 : Cond.methodLink RX6 118 yX6_takesOf ∈ lw_tbl := List.mem_of_getElem? (i := 859) (by decide +kernel)
theorem mi_X6_takesOf : Cond.instanceMethod yX6_takesOf ∈ lw_tbl := List.mem_of_getElem? (i := 861) (by decide +kernel)
theorem mc_X6_takesOf : Cond.code yX6_takesOf cX6_takesOf 3 (some .int) ∈ lw_tbl := List.mem_of_getElem? (i := 862) (by decide +kernel)
theorem lk_RL_63 : Cond.methodLink RL 63 yX6_waited ∈ lw_tbl := List.mem_of_getElem? (i := 863) (by decide +kernel)
theorem mi_X6_waited : Cond.instanceMethod yX6_waited ∈ lw_tbl := List.mem_of_getElem? (i := 864) (by decide +kernel)
theorem ml_X6_waited : Cond.selects RX6 yX6_waited yX6_waited ∈ lw_tbl := List.mem_of_getElem? (i := 865) (by decide +kernel)
theorem mc_X6_waited : Cond.code yX6_waited cX6_waited 2 (some .int) ∈ lw_tbl := List.mem_of_getElem? (i := 866) (by decide +kernel)
theorem lk_RX6_186 : Cond.methodLink RX6 186 yX6_day ∈ lw_tbl := List.mem_of_getElem? (i := 867) (by decide +kernel)
theorem mi_X6_day : Cond.instanceMethod yX6_day ∈ lw_tbl := List.mem_of_getElem? (i := 869) (by decide +kernel)
theorem mc_X6_day : Cond.code yX6_day cX6_day 2 none ∈ lw_tbl := List.mem_of_getElem? (i := 870) (by decide +kernel)
theorem lk_RX6_180 : Cond.methodLink RX6 180 yX6_opens ∈ lw_tbl := List.mem_of_getElem? (i := 871) (by decide +kernel)
theorem mi_X6_opens : Cond.instanceMethod yX6_opens ∈ lw_tbl := List.mem_of_getElem? (i := 873) (by decide +kernel)
theorem mc_X6_opens : Cond.code yX6_opens cX6_opens 2 none ∈ lw_tbl := List.mem_of_getElem? (i := 874) (by decide +kernel)
theorem lk_RX6_183 : Cond.methodLink RX6 183 yX6_minute ∈ lw_tbl := List.mem_of_getElem? (i := 875) (by decide +kernel)
theorem mi_X6_minute : Cond.instanceMethod yX6_minute ∈ lw_tbl := List.mem_of_getElem? (i := 877) (by decide +kernel)
theorem mc_X6_minute : Cond.code yX6_minute cX6_minute 5 none ∈ lw_tbl := List.mem_of_getElem? (i := 878) (by decide +kernel)
theorem lk_RX6_154 : Cond.methodLink RX6 154 yX6_ends ∈ lw_tbl := List.mem_of_getElem? (i := 879) (by decide +kernel)
theorem mi_X6_ends : Cond.instanceMethod yX6_ends ∈ lw_tbl := List.mem_of_getElem? (i := 881) (by decide +kernel)
theorem mc_X6_ends : Cond.code yX6_ends cX6_ends 3 none ∈ lw_tbl := List.mem_of_getElem? (i := 882) (by decide +kernel)
theorem lk_RX6_158 : Cond.methodLink RX6 158 yX6_waits ∈ lw_tbl := List.mem_of_getElem? (i := 883) (by decide +kernel)
theorem mi_X6_waits : Cond.instanceMethod yX6_waits ∈ lw_tbl := List.mem_of_getElem? (i := 885) (by decide +kernel)
theorem mc_X6_waits : Cond.code yX6_waits cX6_waits 3 (some .boolean) ∈ lw_tbl := List.mem_of_getElem? (i := 886) (by decide +kernel)
theorem lk_RX6_148 : Cond.methodLink RX6 148 yX6_comesAt ∈ lw_tbl := List.mem_of_getElem? (i := 887) (by decide +kernel)
theorem mi_X6_comesAt : Cond.instanceMethod yX6_comesAt ∈ lw_tbl := List.mem_of_getElem? (i := 889) (by decide +kernel)
theorem mc_X6_comesAt : Cond.code yX6_comesAt cX6_comesAt 2 (some .int) ∈ lw_tbl := List.mem_of_getElem? (i := 890) (by decide +kernel)
theorem lk_RX6_161 : Cond.methodLink RX6 161 yX6_letsDown ∈ lw_tbl := List.mem_of_getElem? (i := 891) (by decide +kernel)
theorem mi_X6_letsDown : Cond.instanceMethod yX6_letsDown ∈ lw_tbl := List.mem_of_getElem? (i := 893) (by decide +kernel)
theorem mc_X6_letsDown : Cond.code yX6_letsDown cX6_letsDown 2 (some .boolean) ∈ lw_tbl := List.mem_of_getElem? (i := 894) (by decide +kernel)
theorem lk_RX6_139 : Cond.methodLink RX6 139 yX6_singles ∈ lw_tbl := List.mem_of_getElem? (i := 895) (by decide +kernel)
theorem mi_X6_singles : Cond.instanceMethod yX6_singles ∈ lw_tbl := List.mem_of_getElem? (i := 897) (by decide +kernel)
theorem mc_X6_singles : Cond.code yX6_singles cX6_singles 3 (some .int) ∈ lw_tbl := List.mem_of_getElem? (i := 898) (by decide +kernel)
theorem lk_RX6_142 : Cond.methodLink RX6 142 yX6_isUp ∈ lw_tbl := List.mem_of_getElem? (i := 899) (by decide +kernel)
theorem mi_X6_isUp : Cond.instanceMethod yX6_isUp ∈ lw_tbl := List.mem_of_getElem? (i := 901) (by decide +kernel)
theorem mc_X6_isUp : Cond.code yX6_isUp cX6_isUp 3 (some .boolean) ∈ lw_tbl := List.mem_of_getElem? (i := 902) (by decide +kernel)
theorem lk_RX6_164 : Cond.methodLink RX6 164 yX6_goesDown ∈ lw_tbl := List.mem_of_getElem? (i := 903) (by decide +kernel)
theorem mi_X6_goesDown : Cond.instanceMethod yX6_goesDown ∈ lw_tbl := List.mem_of_getElem? (i := 905) (by decide +kernel)
theorem mc_X6_goesDown : Cond.code yX6_goesDown cX6_goesDown 3 none ∈ lw_tbl := List.mem_of_getElem? (i := 906) (by decide +kernel)
theorem lk_RX6_167 : Cond.methodLink RX6 167 yX6_hasEngine ∈ lw_tbl := List.mem_of_getElem? (i := 907) (by decide +kernel)
theorem mi_X6_hasEngine : Cond.instanceMethod yX6_hasEngine ∈ lw_tbl := List.mem_of_getElem? (i := 909) (by decide +kernel)
theorem mc_X6_hasEngine : Cond.code yX6_hasEngine cX6_hasEngine 2 (some .boolean) ∈ lw_tbl := List.mem_of_getElem? (i := 910) (by decide +kernel)
theorem lk_RX6_170 : Cond.methodLink RX6 170 yX6_letsUp ∈ lw_tbl := List.mem_of_getElem? (i := 911) (by decide +kernel)
theorem mi_X6_letsUp : Cond.instanceMethod yX6_letsUp ∈ lw_tbl := List.mem_of_getElem? (i := 913) (by decide +kernel)
theorem mc_X6_letsUp : Cond.code yX6_letsUp cX6_letsUp 3 (some .boolean) ∈ lw_tbl := List.mem_of_getElem? (i := 914) (by decide +kernel)
theorem lk_RX6_145 : Cond.methodLink RX6 145 yX6_isDown ∈ lw_tbl := List.mem_of_getElem? (i := 915) (by decide +kernel)
theorem mi_X6_isDown : Cond.instanceMethod yX6_isDown ∈ lw_tbl := List.mem_of_getElem? (i := 917) (by decide +kernel)
theorem mc_X6_isDown : Cond.code yX6_isDown cX6_isDown 3 (some .boolean) ∈ lw_tbl := List.mem_of_getElem? (i := 918) (by decide +kernel)
theorem lk_RX6_173 : Cond.methodLink RX6 173 yX6_isAhead ∈ lw_tbl := List.mem_of_getElem? (i := 919) (by decide +kernel)
theorem mi_X6_isAhead : Cond.instanceMethod yX6_isAhead ∈ lw_tbl := List.mem_of_getElem? (i := 921) (by decide +kernel)
theorem mc_X6_isAhead : Cond.code yX6_isAhead cX6_isAhead 5 (some .boolean) ∈ lw_tbl := List.mem_of_getElem? (i := 922) (by decide +kernel)
theorem lk_RX6_151 : Cond.methodLink RX6 151 yX6_placeIn ∈ lw_tbl := List.mem_of_getElem? (i := 923) (by decide +kernel)
theorem mi_X6_placeIn : Cond.instanceMethod yX6_placeIn ∈ lw_tbl := List.mem_of_getElem? (i := 925) (by decide +kernel)
theorem mc_X6_placeIn : Cond.code yX6_placeIn cX6_placeIn 3 (some .int) ∈ lw_tbl := List.mem_of_getElem? (i := 926) (by decide +kernel)
theorem lk_RX6_176 : Cond.methodLink RX6 176 yX6_goesUp ∈ lw_tbl := List.mem_of_getElem? (i := 927) (by decide +kernel)
theorem mi_X6_goesUp : Cond.instanceMethod yX6_goesUp ∈ lw_tbl := List.mem_of_getElem? (i := 929) (by decide +kernel)
theorem mc_X6_goesUp : Cond.code yX6_goesUp cX6_goesUp 3 none ∈ lw_tbl := List.mem_of_getElem? (i := 930) (by decide +kernel)
theorem lk_RL_67 : Cond.methodLink RL 67 yX6_began ∈ lw_tbl := List.mem_of_getElem? (i := 931) (by decide +kernel)
theorem mi_X6_began : Cond.instanceMethod yX6_began ∈ lw_tbl := List.mem_of_getElem? (i := 932) (by decide +kernel)
theorem ml_X6_began : Cond.selects RX6 yX6_began yX6_began ∈ lw_tbl := List.mem_of_getElem? (i := 933) (by decide +kernel)
theorem mc_X6_began : Cond.code yX6_began cX6_began 2 (some .int) ∈ lw_tbl := List.mem_of_getElem? (i := 934) (by decide +kernel)
theorem lk_RL_71 : Cond.methodLink RL 71 yX6_allWaited ∈ lw_tbl := List.mem_of_getElem? (i := 935) (by decide +kernel)
theorem mi_X6_allWaited : Cond.instanceMethod yX6_allWaited ∈ lw_tbl := List.mem_of_getElem? (i := 936) (by decide +kernel)
theorem ml_X6_allWaited : Cond.selects RX6 yX6_allWaited yX6_allWaited ∈ lw_tbl := List.mem_of_getElem? (i := 937) (by decide +kernel)
theorem mc_X6_allWaited : Cond.code yX6_allWaited cX6_allWaited 1 (some .int) ∈ lw_tbl := List.mem_of_getElem? (i := 938) (by decide +kernel)
theorem lk_RX6_189 : Cond.methodLink RX6 189 yX6_allOf ∈ lw_tbl := List.mem_of_getElem? (i := 939) (by decide +kernel)
theorem mi_X6_allOf : Cond.instanceMethod yX6_allOf ∈ lw_tbl := List.mem_of_getElem? (i := 941) (by decide +kernel)
theorem mc_X6_allOf : Cond.code yX6_allOf cX6_allOf 3 (some .int) ∈ lw_tbl := List.mem_of_getElem? (i := 942) (by decide +kernel)
theorem lk_RL_75 : Cond.methodLink RL 75 yX6_downs ∈ lw_tbl := List.mem_of_getElem? (i := 943) (by decide +kernel)
theorem mi_X6_downs : Cond.instanceMethod yX6_downs ∈ lw_tbl := List.mem_of_getElem? (i := 944) (by decide +kernel)
theorem ml_X6_downs : Cond.selects RX6 yX6_downs yX6_downs ∈ lw_tbl := List.mem_of_getElem? (i := 945) (by decide +kernel)
theorem mc_X6_downs : Cond.code yX6_downs cX6_downs 1 (some .int) ∈ lw_tbl := List.mem_of_getElem? (i := 946) (by decide +kernel)
theorem lk_RL_79 : Cond.methodLink RL 79 yX6_best ∈ lw_tbl := List.mem_of_getElem? (i := 947) (by decide +kernel)
theorem mi_X6_best : Cond.instanceMethod yX6_best ∈ lw_tbl := List.mem_of_getElem? (i := 948) (by decide +kernel)
theorem ml_X6_best : Cond.selects RX6 yX6_best yX6_best ∈ lw_tbl := List.mem_of_getElem? (i := 949) (by decide +kernel)
theorem mc_X6_best : Cond.code yX6_best cX6_best 3 (some .int) ∈ lw_tbl := List.mem_of_getElem? (i := 950) (by decide +kernel)
theorem lk_RX6_198 : Cond.methodLink RX6 198 yX6_keeps ∈ lw_tbl := List.mem_of_getElem? (i := 951) (by decide +kernel)
theorem mi_X6_keeps : Cond.instanceMethod yX6_keeps ∈ lw_tbl := List.mem_of_getElem? (i := 953) (by decide +kernel)
theorem mc_X6_keeps : Cond.code yX6_keeps cX6_keeps 2 none ∈ lw_tbl := List.mem_of_getElem? (i := 954) (by decide +kernel)
theorem lk_RX6_195 : Cond.methodLink RX6 195 yX6_goesOn ∈ lw_tbl := List.mem_of_getElem? (i := 955) (by decide +kernel)
theorem mi_X6_goesOn : Cond.instanceMethod yX6_goesOn ∈ lw_tbl := List.mem_of_getElem? (i := 957) (by decide +kernel)
theorem mc_X6_goesOn : Cond.code yX6_goesOn cX6_goesOn 5 none ∈ lw_tbl := List.mem_of_getElem? (i := 958) (by decide +kernel)
theorem lk_RX6_201 : Cond.methodLink RX6 201 yX6_putsBack ∈ lw_tbl := List.mem_of_getElem? (i := 959) (by decide +kernel)
theorem mi_X6_putsBack : Cond.instanceMethod yX6_putsBack ∈ lw_tbl := List.mem_of_getElem? (i := 961) (by decide +kernel)
theorem mc_X6_putsBack : Cond.code yX6_putsBack cX6_putsBack 2 none ∈ lw_tbl := List.mem_of_getElem? (i := 962) (by decide +kernel)
theorem lk_RL_83 : Cond.methodLink RL 83 yX6_fewest ∈ lw_tbl := List.mem_of_getElem? (i := 963) (by decide +kernel)
theorem mi_X6_fewest : Cond.instanceMethod yX6_fewest ∈ lw_tbl := List.mem_of_getElem? (i := 964) (by decide +kernel)
theorem ml_X6_fewest : Cond.selects RX6 yX6_fewest yX6_fewest ∈ lw_tbl := List.mem_of_getElem? (i := 965) (by decide +kernel)
theorem mc_X6_fewest : Cond.code yX6_fewest cX6_fewest 5 (some .int) ∈ lw_tbl := List.mem_of_getElem? (i := 966) (by decide +kernel)
theorem lk_RL_87 : Cond.methodLink RL 87 yX6_which ∈ lw_tbl := List.mem_of_getElem? (i := 967) (by decide +kernel)
theorem mi_X6_which : Cond.instanceMethod yX6_which ∈ lw_tbl := List.mem_of_getElem? (i := 968) (by decide +kernel)
theorem ml_X6_which : Cond.selects RX6 yX6_which yX6_which ∈ lw_tbl := List.mem_of_getElem? (i := 969) (by decide +kernel)
theorem mc_X6_which : Cond.code yX6_which cX6_which 6 (some .int) ∈ lw_tbl := List.mem_of_getElem? (i := 970) (by decide +kernel)
theorem lk_RL_91 : Cond.methodLink RL 91 yX6_edge ∈ lw_tbl := List.mem_of_getElem? (i := 971) (by decide +kernel)
theorem mi_X6_edge : Cond.instanceMethod yX6_edge ∈ lw_tbl := List.mem_of_getElem? (i := 972) (by decide +kernel)
theorem ml_X6_edge : Cond.selects RX6 yX6_edge yX6_edge ∈ lw_tbl := List.mem_of_getElem? (i := 973) (by decide +kernel)
theorem mc_X6_edge : Cond.code yX6_edge cX6_edge 3 (some .int) ∈ lw_tbl := List.mem_of_getElem? (i := 974) (by decide +kernel)
theorem lk_RL_95 : Cond.methodLink RL 95 yX6_chance ∈ lw_tbl := List.mem_of_getElem? (i := 975) (by decide +kernel)
theorem mi_X6_chance : Cond.instanceMethod yX6_chance ∈ lw_tbl := List.mem_of_getElem? (i := 976) (by decide +kernel)
theorem ml_X6_chance : Cond.selects RX6 yX6_chance yX6_chance ∈ lw_tbl := List.mem_of_getElem? (i := 977) (by decide +kernel)
theorem mc_X6_chance : Cond.code yX6_chance cX6_chance 6 (some .int) ∈ lw_tbl := List.mem_of_getElem? (i := 978) (by decide +kernel)
theorem lk_RL_99 : Cond.methodLink RL 99 yX6_heaviest ∈ lw_tbl := List.mem_of_getElem? (i := 979) (by decide +kernel)
theorem mi_X6_heaviest : Cond.instanceMethod yX6_heaviest ∈ lw_tbl := List.mem_of_getElem? (i := 980) (by decide +kernel)
theorem ml_X6_heaviest : Cond.selects RX6 yX6_heaviest yX6_heaviest ∈ lw_tbl := List.mem_of_getElem? (i := 981) (by decide +kernel)
theorem mc_X6_heaviest : Cond.code yX6_heaviest cX6_heaviest 1 (some .int) ∈ lw_tbl := List.mem_of_getElem? (i := 982) (by decide +kernel)
theorem lk_RX6_204 : Cond.methodLink RX6 204 yX6_weightsOf ∈ lw_tbl := List.mem_of_getElem? (i := 983) (by decide +kernel)
theorem mi_X6_weightsOf : Cond.instanceMethod yX6_weightsOf ∈ lw_tbl := List.mem_of_getElem? (i := 985) (by decide +kernel)
theorem mc_X6_weightsOf : Cond.code yX6_weightsOf cX6_weightsOf 3 (some .int) ∈ lw_tbl := List.mem_of_getElem? (i := 986) (by decide +kernel)
theorem lk_RL_103 : Cond.methodLink RL 103 yX6_yard ∈ lw_tbl := List.mem_of_getElem? (i := 987) (by decide +kernel)
theorem mi_X6_yard : Cond.instanceMethod yX6_yard ∈ lw_tbl := List.mem_of_getElem? (i := 988) (by decide +kernel)
theorem ml_X6_yard : Cond.selects RX6 yX6_yard yX6_yard ∈ lw_tbl := List.mem_of_getElem? (i := 989) (by decide +kernel)
theorem mc_X6_yard : Cond.code yX6_yard cX6_yard 5 (some .int) ∈ lw_tbl := List.mem_of_getElem? (i := 990) (by decide +kernel)
theorem lk_RL_107 : Cond.methodLink RL 107 yX6_row ∈ lw_tbl := List.mem_of_getElem? (i := 991) (by decide +kernel)
theorem mi_X6_row : Cond.instanceMethod yX6_row ∈ lw_tbl := List.mem_of_getElem? (i := 992) (by decide +kernel)
theorem ml_X6_row : Cond.selects RX6 yX6_row yX6_row ∈ lw_tbl := List.mem_of_getElem? (i := 993) (by decide +kernel)
theorem mc_X6_row : Cond.code yX6_row cX6_row 3 (some .int) ∈ lw_tbl := List.mem_of_getElem? (i := 994) (by decide +kernel)
theorem lk_RL_111 : Cond.methodLink RL 111 yX6_judge ∈ lw_tbl := List.mem_of_getElem? (i := 995) (by decide +kernel)
theorem mi_X6_judge : Cond.instanceMethod yX6_judge ∈ lw_tbl := List.mem_of_getElem? (i := 996) (by decide +kernel)
theorem ml_X6_judge : Cond.selects RX6 yX6_judge yX6_judge ∈ lw_tbl := List.mem_of_getElem? (i := 997) (by decide +kernel)
theorem mc_X6_judge : Cond.code yX6_judge cX6_judge 6 (some .int) ∈ lw_tbl := List.mem_of_getElem? (i := 998) (by decide +kernel)
theorem lk_RX6_210 : Cond.methodLink RX6 210 yX6_canFrom ∈ lw_tbl := List.mem_of_getElem? (i := 999) (by decide +kernel)
theorem mi_X6_canFrom : Cond.instanceMethod yX6_canFrom ∈ lw_tbl := List.mem_of_getElem? (i := 1001) (by decide +kernel)
theorem mc_X6_canFrom : Cond.code yX6_canFrom cX6_canFrom 4 (some .int) ∈ lw_tbl := List.mem_of_getElem? (i := 1002) (by decide +kernel)
theorem lk_RL_115 : Cond.methodLink RL 115 yX6_image ∈ lw_tbl := List.mem_of_getElem? (i := 1003) (by decide +kernel)
theorem mi_X6_image : Cond.instanceMethod yX6_image ∈ lw_tbl := List.mem_of_getElem? (i := 1004) (by decide +kernel)
theorem ml_X6_image : Cond.selects RX6 yX6_image yX6_image ∈ lw_tbl := List.mem_of_getElem? (i := 1005) (by decide +kernel)
theorem mc_X6_image : Cond.code yX6_image cX6_image 2 (some .int) ∈ lw_tbl := List.mem_of_getElem? (i := 1006) (by decide +kernel)
theorem lk_RL_119 : Cond.methodLink RL 119 yX6_on ∈ lw_tbl := List.mem_of_getElem? (i := 1007) (by decide +kernel)
theorem mi_X6_on : Cond.instanceMethod yX6_on ∈ lw_tbl := List.mem_of_getElem? (i := 1008) (by decide +kernel)
theorem ml_X6_on : Cond.selects RX6 yX6_on yX6_on ∈ lw_tbl := List.mem_of_getElem? (i := 1009) (by decide +kernel)
theorem mc_X6_on : Cond.code yX6_on cX6_on 2 (some .int) ∈ lw_tbl := List.mem_of_getElem? (i := 1010) (by decide +kernel)
theorem lk_RL_123 : Cond.methodLink RL 123 yX6_count ∈ lw_tbl := List.mem_of_getElem? (i := 1011) (by decide +kernel)
theorem mi_X6_count : Cond.instanceMethod yX6_count ∈ lw_tbl := List.mem_of_getElem? (i := 1012) (by decide +kernel)
theorem ml_X6_count : Cond.selects RX6 yX6_count yX6_count ∈ lw_tbl := List.mem_of_getElem? (i := 1013) (by decide +kernel)
theorem mc_X6_count : Cond.code yX6_count cX6_count 4 (some .int) ∈ lw_tbl := List.mem_of_getElem? (i := 1014) (by decide +kernel)
theorem ck_RL_13 : Cond.constantLong RL 13 4294967295 ∈ lw_tbl := List.mem_of_getElem? (i := 1015) (by decide +kernel)
theorem mi_objectInit : Cond.instanceMethod objectInit ∈ lw_tbl := List.mem_of_getElem? (i := 81) (by decide +kernel)
theorem mc_objectInit : Cond.code objectInit ⟨#[0xb1]⟩ 1 none ∈ lw_tbl := List.mem_of_getElem? (i := 82) (by decide +kernel)
theorem ms_arraycopy : Cond.static arraycopyName ∈ lw_tbl := List.mem_of_getElem? (i := 344) (by decide +kernel)
theorem ms_max : Cond.static Lib.Math.max.name ∈ lw_tbl := List.mem_of_getElem? (i := 492) (by decide +kernel)
theorem mc_max : Cond.code Lib.Math.max.name Lib.Math.max.code 2 (some .int) ∈ lw_tbl := List.mem_of_getElem? (i := 493) (by decide +kernel)
theorem ms_min : Cond.static Lib.Math.min.name ∈ lw_tbl := List.mem_of_getElem? (i := 547) (by decide +kernel)
theorem mc_min : Cond.code Lib.Math.min.name Lib.Math.min.code 2 (some .int) ∈ lw_tbl := List.mem_of_getElem? (i := 548) (by decide +kernel)
theorem inX0 : ∀ w ∈ u_ws RX0 TX0 6, w ∈ lw_tbl := by
  have h : u_ws RX0 TX0 6 = [214, 216, 218, 220, 222, 224].filterMap (fun i => lw_tbl[i]?) := by decide +kernel
  intro w hw
  rw [h] at hw
  obtain ⟨i, -, hi⟩ := List.mem_filterMap.mp hw
  exact List.mem_of_getElem? hi
theorem inX1 : ∀ w ∈ u_ws RX1 TX1 10, w ∈ lw_tbl := by
  have h : u_ws RX1 TX1 10 = [125, 127, 129, 131, 133, 135, 137, 139, 141, 143].filterMap (fun i => lw_tbl[i]?) := by decide +kernel
  intro w hw
  rw [h] at hw
  obtain ⟨i, -, hi⟩ := List.mem_filterMap.mp hw
  exact List.mem_of_getElem? hi
theorem inX2 : ∀ w ∈ u_ws RX2 TX2 6, w ∈ lw_tbl := by
  have h : u_ws RX2 TX2 6 = [275, 277, 279, 281, 283, 285].filterMap (fun i => lw_tbl[i]?) := by decide +kernel
  intro w hw
  rw [h] at hw
  obtain ⟨i, -, hi⟩ := List.mem_filterMap.mp hw
  exact List.mem_of_getElem? hi
theorem inX3 : ∀ w ∈ u_ws RX3 TX3 7, w ∈ lw_tbl := by
  have h : u_ws RX3 TX3 7 = [243, 245, 247, 249, 251, 253, 255].filterMap (fun i => lw_tbl[i]?) := by decide +kernel
  intro w hw
  rw [h] at hw
  obtain ⟨i, -, hi⟩ := List.mem_filterMap.mp hw
  exact List.mem_of_getElem? hi
theorem inX4 : ∀ w ∈ u_ws RX4 TX4 15, w ∈ lw_tbl := by
  have h : u_ws RX4 TX4 15 = [173, 175, 177, 179, 181, 183, 185, 187, 189, 191, 193, 195, 197, 199, 201].filterMap (fun i => lw_tbl[i]?) := by decide +kernel
  intro w hw
  rw [h] at hw
  obtain ⟨i, -, hi⟩ := List.mem_filterMap.mp hw
  exact List.mem_of_getElem? hi
theorem inX5 : ∀ w ∈ u_ws RX5 TX5 10, w ∈ lw_tbl := by
  have h : u_ws RX5 TX5 10 = [298, 300, 302, 304, 306, 308, 310, 312, 314, 316].filterMap (fun i => lw_tbl[i]?) := by decide +kernel
  intro w hw
  rw [h] at hw
  obtain ⟨i, -, hi⟩ := List.mem_filterMap.mp hw
  exact List.mem_of_getElem? hi
theorem inX6 : ∀ w ∈ u_ws RX6 TX6 23, w ∈ lw_tbl := by
  have h : u_ws RX6 TX6 23 = [699, 701, 703, 705, 707, 709, 711, 713, 715, 717, 719, 721, 723, 725, 727, 729, 731, 733, 735, 737, 739, 741, 743].filterMap (fun i => lw_tbl[i]?) := by decide +kernel
  intro w hw
  rw [h] at hw
  obtain ⟨i, -, hi⟩ := List.mem_filterMap.mp hw
  exact List.mem_of_getElem? hi
end
section
/-! decode rows -/
theorem dX0_init_0 : decode cX0_init 0 = .ok (.aload_n 0, 1) := by decide +kernel
theorem dX0_init_1 : decode cX0_init 1 = .ok (.invokespecial 3, 3) := by decide +kernel
theorem dX0_init_4 : decode cX0_init 4 = .ok (.aload_n 0, 1) := by decide +kernel
theorem dX0_init_5 : decode cX0_init 5 = .ok (.new 9, 3) := by decide +kernel
theorem dX0_init_8 : decode cX0_init 8 = .ok (.dup, 1) := by decide +kernel
theorem dX0_init_9 : decode cX0_init 9 = .ok (.invokespecial 11, 3) := by decide +kernel
theorem dX0_init_12 : decode cX0_init 12 = .ok (.putfield 12, 3) := by decide +kernel
theorem dX0_init_15 : decode cX0_init 15 = .ok (.aload_n 0, 1) := by decide +kernel
theorem dX0_init_16 : decode cX0_init 16 = .ok (.bipush 8, 2) := by decide +kernel
theorem dX0_init_18 : decode cX0_init 18 = .ok (.newarray .int, 2) := by decide +kernel
theorem dX0_init_20 : decode cX0_init 20 = .ok (.putfield 18, 3) := by decide +kernel
theorem dX0_init_23 : decode cX0_init 23 = .ok (.aload_n 0, 1) := by decide +kernel
theorem dX0_init_24 : decode cX0_init 24 = .ok (.new 22, 3) := by decide +kernel
theorem dX0_init_27 : decode cX0_init 27 = .ok (.dup, 1) := by decide +kernel
theorem dX0_init_28 : decode cX0_init 28 = .ok (.invokespecial 24, 3) := by decide +kernel
theorem dX0_init_31 : decode cX0_init 31 = .ok (.putfield 25, 3) := by decide +kernel
theorem dX0_init_34 : decode cX0_init 34 = .ok (.aload_n 0, 1) := by decide +kernel
theorem dX0_init_35 : decode cX0_init 35 = .ok (.bipush 8, 2) := by decide +kernel
theorem dX0_init_37 : decode cX0_init 37 = .ok (.newarray .int, 2) := by decide +kernel
theorem dX0_init_39 : decode cX0_init 39 = .ok (.putfield 29, 3) := by decide +kernel
theorem dX0_init_42 : decode cX0_init 42 = .ok (.aload_n 0, 1) := by decide +kernel
theorem dX0_init_43 : decode cX0_init 43 = .ok (.bipush 8, 2) := by decide +kernel
theorem dX0_init_45 : decode cX0_init 45 = .ok (.newarray .int, 2) := by decide +kernel
theorem dX0_init_47 : decode cX0_init 47 = .ok (.putfield 32, 3) := by decide +kernel
theorem dX0_init_50 : decode cX0_init 50 = .ok (.return_, 1) := by decide +kernel
theorem dX0_run_0 : decode cX0_run 0 = .ok (.aload_n 0, 1) := by decide +kernel
theorem dX0_run_1 : decode cX0_run 1 = .ok (.invokevirtual 35, 3) := by decide +kernel
theorem dX0_run_4 : decode cX0_run 4 = .ok (.iconst 0, 1) := by decide +kernel
theorem dX0_run_5 : decode cX0_run 5 = .ok (.istore_n 1, 1) := by decide +kernel
theorem dX0_run_6 : decode cX0_run 6 = .ok (.iconst 0, 1) := by decide +kernel
theorem dX0_run_7 : decode cX0_run 7 = .ok (.istore_n 2, 1) := by decide +kernel
theorem dX0_run_8 : decode cX0_run 8 = .ok (.iload_n 2, 1) := by decide +kernel
theorem dX0_run_9 : decode cX0_run 9 = .ok (.sipush 1440, 3) := by decide +kernel
theorem dX0_run_12 : decode cX0_run 12 = .ok (.if_icmp .gt 36, 3) := by decide +kernel
theorem dX0_run_15 : decode cX0_run 15 = .ok (.iload_n 1, 1) := by decide +kernel
theorem dX0_run_16 : decode cX0_run 16 = .ok (.sipush 1440, 3) := by decide +kernel
theorem dX0_run_19 : decode cX0_run 19 = .ok (.if_icmp .gt 29, 3) := by decide +kernel
theorem dX0_run_22 : decode cX0_run 22 = .ok (.aload_n 0, 1) := by decide +kernel
theorem dX0_run_23 : decode cX0_run 23 = .ok (.iload_n 1, 1) := by decide +kernel
theorem dX0_run_24 : decode cX0_run 24 = .ok (.invokevirtual 38, 3) := by decide +kernel
theorem dX0_run_27 : decode cX0_run 27 = .ok (.ifCond .eq 9, 3) := by decide +kernel
theorem dX0_run_30 : decode cX0_run 30 = .ok (.iload_n 1, 1) := by decide +kernel
theorem dX0_run_31 : decode cX0_run 31 = .ok (.iconst 1, 1) := by decide +kernel
theorem dX0_run_32 : decode cX0_run 32 = .ok (.iadd, 1) := by decide +kernel
theorem dX0_run_33 : decode cX0_run 33 = .ok (.goto 8, 3) := by decide +kernel
theorem dX0_run_36 : decode cX0_run 36 = .ok (.aload_n 0, 1) := by decide +kernel
theorem dX0_run_37 : decode cX0_run 37 = .ok (.iload_n 1, 1) := by decide +kernel
theorem dX0_run_38 : decode cX0_run 38 = .ok (.invokevirtual 42, 3) := by decide +kernel
theorem dX0_run_41 : decode cX0_run 41 = .ok (.istore_n 1, 1) := by decide +kernel
theorem dX0_run_42 : decode cX0_run 42 = .ok (.iinc 2 1, 3) := by decide +kernel
theorem dX0_run_45 : decode cX0_run 45 = .ok (.goto (-37), 3) := by decide +kernel
theorem dX0_run_48 : decode cX0_run 48 = .ok (.return_, 1) := by decide +kernel
theorem dX0_waitedByAll_0 : decode cX0_waitedByAll 0 = .ok (.iconst 0, 1) := by decide +kernel
theorem dX0_waitedByAll_1 : decode cX0_waitedByAll 1 = .ok (.istore_n 1, 1) := by decide +kernel
theorem dX0_waitedByAll_2 : decode cX0_waitedByAll 2 = .ok (.iconst 0, 1) := by decide +kernel
theorem dX0_waitedByAll_3 : decode cX0_waitedByAll 3 = .ok (.istore_n 2, 1) := by decide +kernel
theorem dX0_waitedByAll_4 : decode cX0_waitedByAll 4 = .ok (.iload_n 2, 1) := by decide +kernel
theorem dX0_waitedByAll_5 : decode cX0_waitedByAll 5 = .ok (.aload_n 0, 1) := by decide +kernel
theorem dX0_waitedByAll_6 : decode cX0_waitedByAll 6 = .ok (.getfield 12, 3) := by decide +kernel
theorem dX0_waitedByAll_9 : decode cX0_waitedByAll 9 = .ok (.getfield 46, 3) := by decide +kernel
theorem dX0_waitedByAll_12 : decode cX0_waitedByAll 12 = .ok (.if_icmp .ge 55, 3) := by decide +kernel
theorem dX0_waitedByAll_15 : decode cX0_waitedByAll 15 = .ok (.aload_n 0, 1) := by decide +kernel
theorem dX0_waitedByAll_16 : decode cX0_waitedByAll 16 = .ok (.getfield 29, 3) := by decide +kernel
theorem dX0_waitedByAll_19 : decode cX0_waitedByAll 19 = .ok (.iload_n 2, 1) := by decide +kernel
theorem dX0_waitedByAll_20 : decode cX0_waitedByAll 20 = .ok (.iaload, 1) := by decide +kernel
theorem dX0_waitedByAll_21 : decode cX0_waitedByAll 21 = .ok (.iconst 3, 1) := by decide +kernel
theorem dX0_waitedByAll_22 : decode cX0_waitedByAll 22 = .ok (.if_icmp .eq 39, 3) := by decide +kernel
theorem dX0_waitedByAll_25 : decode cX0_waitedByAll 25 = .ok (.iload_n 1, 1) := by decide +kernel
theorem dX0_waitedByAll_26 : decode cX0_waitedByAll 26 = .ok (.aload_n 0, 1) := by decide +kernel
theorem dX0_waitedByAll_27 : decode cX0_waitedByAll 27 = .ok (.getfield 18, 3) := by decide +kernel
theorem dX0_waitedByAll_30 : decode cX0_waitedByAll 30 = .ok (.iload_n 2, 1) := by decide +kernel
theorem dX0_waitedByAll_31 : decode cX0_waitedByAll 31 = .ok (.iaload, 1) := by decide +kernel
theorem dX0_waitedByAll_32 : decode cX0_waitedByAll 32 = .ok (.bipush (-9), 2) := by decide +kernel
theorem dX0_waitedByAll_34 : decode cX0_waitedByAll 34 = .ok (.if_icmp .ne 9, 3) := by decide +kernel
theorem dX0_waitedByAll_37 : decode cX0_waitedByAll 37 = .ok (.sipush 1440, 3) := by decide +kernel
theorem dX0_waitedByAll_40 : decode cX0_waitedByAll 40 = .ok (.goto 9, 3) := by decide +kernel
theorem dX0_waitedByAll_43 : decode cX0_waitedByAll 43 = .ok (.aload_n 0, 1) := by decide +kernel
theorem dX0_waitedByAll_44 : decode cX0_waitedByAll 44 = .ok (.getfield 18, 3) := by decide +kernel
theorem dX0_waitedByAll_47 : decode cX0_waitedByAll 47 = .ok (.iload_n 2, 1) := by decide +kernel
theorem dX0_waitedByAll_48 : decode cX0_waitedByAll 48 = .ok (.iaload, 1) := by decide +kernel
theorem dX0_waitedByAll_49 : decode cX0_waitedByAll 49 = .ok (.aload_n 0, 1) := by decide +kernel
theorem dX0_waitedByAll_50 : decode cX0_waitedByAll 50 = .ok (.getfield 12, 3) := by decide +kernel
theorem dX0_waitedByAll_53 : decode cX0_waitedByAll 53 = .ok (.getfield 50, 3) := by decide +kernel
theorem dX0_waitedByAll_56 : decode cX0_waitedByAll 56 = .ok (.iload_n 2, 1) := by decide +kernel
theorem dX0_waitedByAll_57 : decode cX0_waitedByAll 57 = .ok (.iaload, 1) := by decide +kernel
theorem dX0_waitedByAll_58 : decode cX0_waitedByAll 58 = .ok (.isub, 1) := by decide +kernel
theorem dX0_waitedByAll_59 : decode cX0_waitedByAll 59 = .ok (.iadd, 1) := by decide +kernel
theorem dX0_waitedByAll_60 : decode cX0_waitedByAll 60 = .ok (.istore_n 1, 1) := by decide +kernel
theorem dX0_waitedByAll_61 : decode cX0_waitedByAll 61 = .ok (.iinc 2 1, 3) := by decide +kernel
theorem dX0_waitedByAll_64 : decode cX0_waitedByAll 64 = .ok (.goto (-60), 3) := by decide +kernel
theorem dX0_waitedByAll_67 : decode cX0_waitedByAll 67 = .ok (.iload_n 1, 1) := by decide +kernel
theorem dX0_waitedByAll_68 : decode cX0_waitedByAll 68 = .ok (.ireturn, 1) := by decide +kernel
theorem dX0_weightBegun_0 : decode cX0_weightBegun 0 = .ok (.iconst 0, 1) := by decide +kernel
theorem dX0_weightBegun_1 : decode cX0_weightBegun 1 = .ok (.istore_n 1, 1) := by decide +kernel
theorem dX0_weightBegun_2 : decode cX0_weightBegun 2 = .ok (.iconst 0, 1) := by decide +kernel
theorem dX0_weightBegun_3 : decode cX0_weightBegun 3 = .ok (.istore_n 2, 1) := by decide +kernel
theorem dX0_weightBegun_4 : decode cX0_weightBegun 4 = .ok (.iload_n 2, 1) := by decide +kernel
theorem dX0_weightBegun_5 : decode cX0_weightBegun 5 = .ok (.aload_n 0, 1) := by decide +kernel
theorem dX0_weightBegun_6 : decode cX0_weightBegun 6 = .ok (.getfield 12, 3) := by decide +kernel
theorem dX0_weightBegun_9 : decode cX0_weightBegun 9 = .ok (.getfield 46, 3) := by decide +kernel
theorem dX0_weightBegun_12 : decode cX0_weightBegun 12 = .ok (.if_icmp .ge 32, 3) := by decide +kernel
theorem dX0_weightBegun_15 : decode cX0_weightBegun 15 = .ok (.aload_n 0, 1) := by decide +kernel
theorem dX0_weightBegun_16 : decode cX0_weightBegun 16 = .ok (.getfield 18, 3) := by decide +kernel
theorem dX0_weightBegun_19 : decode cX0_weightBegun 19 = .ok (.iload_n 2, 1) := by decide +kernel
theorem dX0_weightBegun_20 : decode cX0_weightBegun 20 = .ok (.iaload, 1) := by decide +kernel
theorem dX0_weightBegun_21 : decode cX0_weightBegun 21 = .ok (.bipush (-9), 2) := by decide +kernel
theorem dX0_weightBegun_23 : decode cX0_weightBegun 23 = .ok (.if_icmp .eq 15, 3) := by decide +kernel
theorem dX0_weightBegun_26 : decode cX0_weightBegun 26 = .ok (.iload_n 1, 1) := by decide +kernel
theorem dX0_weightBegun_27 : decode cX0_weightBegun 27 = .ok (.aload_n 0, 1) := by decide +kernel
theorem dX0_weightBegun_28 : decode cX0_weightBegun 28 = .ok (.getfield 12, 3) := by decide +kernel
theorem dX0_weightBegun_31 : decode cX0_weightBegun 31 = .ok (.getfield 53, 3) := by decide +kernel
theorem dX0_weightBegun_34 : decode cX0_weightBegun 34 = .ok (.iload_n 2, 1) := by decide +kernel
theorem dX0_weightBegun_35 : decode cX0_weightBegun 35 = .ok (.iaload, 1) := by decide +kernel
theorem dX0_weightBegun_36 : decode cX0_weightBegun 36 = .ok (.iadd, 1) := by decide +kernel
theorem dX0_weightBegun_37 : decode cX0_weightBegun 37 = .ok (.istore_n 1, 1) := by decide +kernel
theorem dX0_weightBegun_38 : decode cX0_weightBegun 38 = .ok (.iinc 2 1, 3) := by decide +kernel
theorem dX0_weightBegun_41 : decode cX0_weightBegun 41 = .ok (.goto (-37), 3) := by decide +kernel
theorem dX0_weightBegun_44 : decode cX0_weightBegun 44 = .ok (.iload_n 1, 1) := by decide +kernel
theorem dX0_weightBegun_45 : decode cX0_weightBegun 45 = .ok (.ireturn, 1) := by decide +kernel
theorem dX0_trainsBegun_0 : decode cX0_trainsBegun 0 = .ok (.iconst 0, 1) := by decide +kernel
theorem dX0_trainsBegun_1 : decode cX0_trainsBegun 1 = .ok (.istore_n 1, 1) := by decide +kernel
theorem dX0_trainsBegun_2 : decode cX0_trainsBegun 2 = .ok (.iconst 0, 1) := by decide +kernel
theorem dX0_trainsBegun_3 : decode cX0_trainsBegun 3 = .ok (.istore_n 2, 1) := by decide +kernel
theorem dX0_trainsBegun_4 : decode cX0_trainsBegun 4 = .ok (.iload_n 2, 1) := by decide +kernel
theorem dX0_trainsBegun_5 : decode cX0_trainsBegun 5 = .ok (.aload_n 0, 1) := by decide +kernel
theorem dX0_trainsBegun_6 : decode cX0_trainsBegun 6 = .ok (.getfield 12, 3) := by decide +kernel
theorem dX0_trainsBegun_9 : decode cX0_trainsBegun 9 = .ok (.getfield 46, 3) := by decide +kernel
theorem dX0_trainsBegun_12 : decode cX0_trainsBegun 12 = .ok (.if_icmp .ge 23, 3) := by decide +kernel
theorem dX0_trainsBegun_15 : decode cX0_trainsBegun 15 = .ok (.aload_n 0, 1) := by decide +kernel
theorem dX0_trainsBegun_16 : decode cX0_trainsBegun 16 = .ok (.getfield 18, 3) := by decide +kernel
theorem dX0_trainsBegun_19 : decode cX0_trainsBegun 19 = .ok (.iload_n 2, 1) := by decide +kernel
theorem dX0_trainsBegun_20 : decode cX0_trainsBegun 20 = .ok (.iaload, 1) := by decide +kernel
theorem dX0_trainsBegun_21 : decode cX0_trainsBegun 21 = .ok (.bipush (-9), 2) := by decide +kernel
theorem dX0_trainsBegun_23 : decode cX0_trainsBegun 23 = .ok (.if_icmp .eq 6, 3) := by decide +kernel
theorem dX0_trainsBegun_26 : decode cX0_trainsBegun 26 = .ok (.iinc 1 1, 3) := by decide +kernel
theorem dX0_trainsBegun_29 : decode cX0_trainsBegun 29 = .ok (.iinc 2 1, 3) := by decide +kernel
theorem dX0_trainsBegun_32 : decode cX0_trainsBegun 32 = .ok (.goto (-28), 3) := by decide +kernel
theorem dX0_trainsBegun_35 : decode cX0_trainsBegun 35 = .ok (.iload_n 1, 1) := by decide +kernel
theorem dX0_trainsBegun_36 : decode cX0_trainsBegun 36 = .ok (.ireturn, 1) := by decide +kernel
theorem dX0_start_0 : decode cX0_start 0 = .ok (.aload_n 0, 1) := by decide +kernel
theorem dX0_start_1 : decode cX0_start 1 = .ok (.getfield 25, 3) := by decide +kernel
theorem dX0_start_4 : decode cX0_start 4 = .ok (.aload_n 0, 1) := by decide +kernel
theorem dX0_start_5 : decode cX0_start 5 = .ok (.getfield 12, 3) := by decide +kernel
theorem dX0_start_8 : decode cX0_start 8 = .ok (.invokevirtual 56, 3) := by decide +kernel
theorem dX0_start_11 : decode cX0_start 11 = .ok (.aload_n 0, 1) := by decide +kernel
theorem dX0_start_12 : decode cX0_start 12 = .ok (.iconst 0, 1) := by decide +kernel
theorem dX0_start_13 : decode cX0_start 13 = .ok (.putfield 59, 3) := by decide +kernel
theorem dX0_start_16 : decode cX0_start 16 = .ok (.iconst 0, 1) := by decide +kernel
theorem dX0_start_17 : decode cX0_start 17 = .ok (.istore_n 1, 1) := by decide +kernel
theorem dX0_start_18 : decode cX0_start 18 = .ok (.iload_n 1, 1) := by decide +kernel
theorem dX0_start_19 : decode cX0_start 19 = .ok (.aload_n 0, 1) := by decide +kernel
theorem dX0_start_20 : decode cX0_start 20 = .ok (.getfield 12, 3) := by decide +kernel
theorem dX0_start_23 : decode cX0_start 23 = .ok (.getfield 46, 3) := by decide +kernel
theorem dX0_start_26 : decode cX0_start 26 = .ok (.if_icmp .ge 39, 3) := by decide +kernel
theorem dX0_start_29 : decode cX0_start 29 = .ok (.aload_n 0, 1) := by decide +kernel
theorem dX0_start_30 : decode cX0_start 30 = .ok (.getfield 18, 3) := by decide +kernel
theorem dX0_start_33 : decode cX0_start 33 = .ok (.iload_n 1, 1) := by decide +kernel
theorem dX0_start_34 : decode cX0_start 34 = .ok (.bipush (-9), 2) := by decide +kernel
theorem dX0_start_36 : decode cX0_start 36 = .ok (.iastore, 1) := by decide +kernel
theorem dX0_start_37 : decode cX0_start 37 = .ok (.aload_n 0, 1) := by decide +kernel
theorem dX0_start_38 : decode cX0_start 38 = .ok (.getfield 29, 3) := by decide +kernel
theorem dX0_start_41 : decode cX0_start 41 = .ok (.iload_n 1, 1) := by decide +kernel
theorem dX0_start_42 : decode cX0_start 42 = .ok (.aload_n 0, 1) := by decide +kernel
theorem dX0_start_43 : decode cX0_start 43 = .ok (.getfield 12, 3) := by decide +kernel
theorem dX0_start_46 : decode cX0_start 46 = .ok (.aload_n 0, 1) := by decide +kernel
theorem dX0_start_47 : decode cX0_start 47 = .ok (.getfield 12, 3) := by decide +kernel
theorem dX0_start_50 : decode cX0_start 50 = .ok (.getfield 53, 3) := by decide +kernel
theorem dX0_start_53 : decode cX0_start 53 = .ok (.iload_n 1, 1) := by decide +kernel
theorem dX0_start_54 : decode cX0_start 54 = .ok (.iaload, 1) := by decide +kernel
theorem dX0_start_55 : decode cX0_start 55 = .ok (.invokevirtual 62, 3) := by decide +kernel
theorem dX0_start_58 : decode cX0_start 58 = .ok (.iastore, 1) := by decide +kernel
theorem dX0_start_59 : decode cX0_start 59 = .ok (.iinc 1 1, 3) := by decide +kernel
theorem dX0_start_62 : decode cX0_start 62 = .ok (.goto (-44), 3) := by decide +kernel
theorem dX0_start_65 : decode cX0_start 65 = .ok (.aload_n 0, 1) := by decide +kernel
theorem dX0_start_66 : decode cX0_start 66 = .ok (.invokevirtual 65, 3) := by decide +kernel
theorem dX0_start_69 : decode cX0_start 69 = .ok (.return_, 1) := by decide +kernel
theorem dX0_findTurns_0 : decode cX0_findTurns 0 = .ok (.aload_n 0, 1) := by decide +kernel
theorem dX0_findTurns_1 : decode cX0_findTurns 1 = .ok (.getfield 12, 3) := by decide +kernel
theorem dX0_findTurns_4 : decode cX0_findTurns 4 = .ok (.getfield 68, 3) := by decide +kernel
theorem dX0_findTurns_7 : decode cX0_findTurns 7 = .ok (.bipush 7, 2) := by decide +kernel
theorem dX0_findTurns_9 : decode cX0_findTurns 9 = .ok (.iaload, 1) := by decide +kernel
theorem dX0_findTurns_10 : decode cX0_findTurns 10 = .ok (.istore_n 1, 1) := by decide +kernel
theorem dX0_findTurns_11 : decode cX0_findTurns 11 = .ok (.iconst 0, 1) := by decide +kernel
theorem dX0_findTurns_12 : decode cX0_findTurns 12 = .ok (.istore_n 2, 1) := by decide +kernel
theorem dX0_findTurns_13 : decode cX0_findTurns 13 = .ok (.iload_n 2, 1) := by decide +kernel
theorem dX0_findTurns_14 : decode cX0_findTurns 14 = .ok (.aload_n 0, 1) := by decide +kernel
theorem dX0_findTurns_15 : decode cX0_findTurns 15 = .ok (.getfield 12, 3) := by decide +kernel
theorem dX0_findTurns_18 : decode cX0_findTurns 18 = .ok (.getfield 46, 3) := by decide +kernel
theorem dX0_findTurns_21 : decode cX0_findTurns 21 = .ok (.if_icmp .ge 92, 3) := by decide +kernel
theorem dX0_findTurns_24 : decode cX0_findTurns 24 = .ok (.iload_n 1, 1) := by decide +kernel
theorem dX0_findTurns_25 : decode cX0_findTurns 25 = .ok (.tableswitch 75 1 3 #[27, 46, 64], 27) := by decide +kernel
theorem dX0_findTurns_52 : decode cX0_findTurns 52 = .ok (.aload_n 0, 1) := by decide +kernel
theorem dX0_findTurns_53 : decode cX0_findTurns 53 = .ok (.getfield 32, 3) := by decide +kernel
theorem dX0_findTurns_56 : decode cX0_findTurns 56 = .ok (.iload_n 2, 1) := by decide +kernel
theorem dX0_findTurns_57 : decode cX0_findTurns 57 = .ok (.aload_n 0, 1) := by decide +kernel
theorem dX0_findTurns_58 : decode cX0_findTurns 58 = .ok (.getfield 12, 3) := by decide +kernel
theorem dX0_findTurns_61 : decode cX0_findTurns 61 = .ok (.getfield 53, 3) := by decide +kernel
theorem dX0_findTurns_64 : decode cX0_findTurns 64 = .ok (.iload_n 2, 1) := by decide +kernel
theorem dX0_findTurns_65 : decode cX0_findTurns 65 = .ok (.iaload, 1) := by decide +kernel
theorem dX0_findTurns_66 : decode cX0_findTurns 66 = .ok (.ineg, 1) := by decide +kernel
theorem dX0_findTurns_67 : decode cX0_findTurns 67 = .ok (.iastore, 1) := by decide +kernel
theorem dX0_findTurns_68 : decode cX0_findTurns 68 = .ok (.goto 39, 3) := by decide +kernel
theorem dX0_findTurns_71 : decode cX0_findTurns 71 = .ok (.aload_n 0, 1) := by decide +kernel
theorem dX0_findTurns_72 : decode cX0_findTurns 72 = .ok (.getfield 32, 3) := by decide +kernel
theorem dX0_findTurns_75 : decode cX0_findTurns 75 = .ok (.iload_n 2, 1) := by decide +kernel
theorem dX0_findTurns_76 : decode cX0_findTurns 76 = .ok (.aload_n 0, 1) := by decide +kernel
theorem dX0_findTurns_77 : decode cX0_findTurns 77 = .ok (.getfield 12, 3) := by decide +kernel
theorem dX0_findTurns_80 : decode cX0_findTurns 80 = .ok (.getfield 53, 3) := by decide +kernel
theorem dX0_findTurns_83 : decode cX0_findTurns 83 = .ok (.iload_n 2, 1) := by decide +kernel
theorem dX0_findTurns_84 : decode cX0_findTurns 84 = .ok (.iaload, 1) := by decide +kernel
theorem dX0_findTurns_85 : decode cX0_findTurns 85 = .ok (.iastore, 1) := by decide +kernel
theorem dX0_findTurns_86 : decode cX0_findTurns 86 = .ok (.goto 21, 3) := by decide +kernel
theorem dX0_findTurns_89 : decode cX0_findTurns 89 = .ok (.aload_n 0, 1) := by decide +kernel
theorem dX0_findTurns_90 : decode cX0_findTurns 90 = .ok (.getfield 32, 3) := by decide +kernel
theorem dX0_findTurns_93 : decode cX0_findTurns 93 = .ok (.iload_n 2, 1) := by decide +kernel
theorem dX0_findTurns_94 : decode cX0_findTurns 94 = .ok (.bipush 8, 2) := by decide +kernel
theorem dX0_findTurns_96 : decode cX0_findTurns 96 = .ok (.iastore, 1) := by decide +kernel
theorem dX0_findTurns_97 : decode cX0_findTurns 97 = .ok (.goto 10, 3) := by decide +kernel
theorem dX0_findTurns_100 : decode cX0_findTurns 100 = .ok (.aload_n 0, 1) := by decide +kernel
theorem dX0_findTurns_101 : decode cX0_findTurns 101 = .ok (.getfield 32, 3) := by decide +kernel
theorem dX0_findTurns_104 : decode cX0_findTurns 104 = .ok (.iload_n 2, 1) := by decide +kernel
theorem dX0_findTurns_105 : decode cX0_findTurns 105 = .ok (.iconst 0, 1) := by decide +kernel
theorem dX0_findTurns_106 : decode cX0_findTurns 106 = .ok (.iastore, 1) := by decide +kernel
theorem dX0_findTurns_107 : decode cX0_findTurns 107 = .ok (.iinc 2 1, 3) := by decide +kernel
theorem dX0_findTurns_110 : decode cX0_findTurns 110 = .ok (.goto (-97), 3) := by decide +kernel
theorem dX0_findTurns_113 : decode cX0_findTurns 113 = .ok (.iconst 0, 1) := by decide +kernel
theorem dX0_findTurns_114 : decode cX0_findTurns 114 = .ok (.istore_n 2, 1) := by decide +kernel
theorem dX0_findTurns_115 : decode cX0_findTurns 115 = .ok (.iload_n 1, 1) := by decide +kernel
theorem dX0_findTurns_116 : decode cX0_findTurns 116 = .ok (.iconst 3, 1) := by decide +kernel
theorem dX0_findTurns_117 : decode cX0_findTurns 117 = .ok (.if_icmp .ne 48, 3) := by decide +kernel
theorem dX0_findTurns_120 : decode cX0_findTurns 120 = .ok (.iload_n 2, 1) := by decide +kernel
theorem dX0_findTurns_121 : decode cX0_findTurns 121 = .ok (.aload_n 0, 1) := by decide +kernel
theorem dX0_findTurns_122 : decode cX0_findTurns 122 = .ok (.getfield 12, 3) := by decide +kernel
theorem dX0_findTurns_125 : decode cX0_findTurns 125 = .ok (.getfield 71, 3) := by decide +kernel
theorem dX0_findTurns_128 : decode cX0_findTurns 128 = .ok (.if_icmp .ge 37, 3) := by decide +kernel
theorem dX0_findTurns_131 : decode cX0_findTurns 131 = .ok (.aload_n 0, 1) := by decide +kernel
theorem dX0_findTurns_132 : decode cX0_findTurns 132 = .ok (.getfield 12, 3) := by decide +kernel
theorem dX0_findTurns_135 : decode cX0_findTurns 135 = .ok (.getfield 74, 3) := by decide +kernel
theorem dX0_findTurns_138 : decode cX0_findTurns 138 = .ok (.iload_n 2, 1) := by decide +kernel
theorem dX0_findTurns_139 : decode cX0_findTurns 139 = .ok (.iaload, 1) := by decide +kernel
theorem dX0_findTurns_140 : decode cX0_findTurns 140 = .ok (.istore_n 3, 1) := by decide +kernel
theorem dX0_findTurns_141 : decode cX0_findTurns 141 = .ok (.aload_n 0, 1) := by decide +kernel
theorem dX0_findTurns_142 : decode cX0_findTurns 142 = .ok (.getfield 12, 3) := by decide +kernel
theorem dX0_findTurns_145 : decode cX0_findTurns 145 = .ok (.iload_n 3, 1) := by decide +kernel
theorem dX0_findTurns_146 : decode cX0_findTurns 146 = .ok (.invokevirtual 77, 3) := by decide +kernel
theorem dX0_findTurns_149 : decode cX0_findTurns 149 = .ok (.ifCond .eq 10, 3) := by decide +kernel
theorem dX0_findTurns_152 : decode cX0_findTurns 152 = .ok (.aload_n 0, 1) := by decide +kernel
theorem dX0_findTurns_153 : decode cX0_findTurns 153 = .ok (.getfield 32, 3) := by decide +kernel
theorem dX0_findTurns_156 : decode cX0_findTurns 156 = .ok (.iload_n 3, 1) := by decide +kernel
theorem dX0_findTurns_157 : decode cX0_findTurns 157 = .ok (.iload_n 2, 1) := by decide +kernel
theorem dX0_findTurns_158 : decode cX0_findTurns 158 = .ok (.iastore, 1) := by decide +kernel
theorem dX0_findTurns_159 : decode cX0_findTurns 159 = .ok (.iinc 2 1, 3) := by decide +kernel
theorem dX0_findTurns_162 : decode cX0_findTurns 162 = .ok (.goto (-47), 3) := by decide +kernel
theorem dX0_findTurns_165 : decode cX0_findTurns 165 = .ok (.return_, 1) := by decide +kernel
theorem dX0_beginOne_0 : decode cX0_beginOne 0 = .ok (.aload_n 0, 1) := by decide +kernel
theorem dX0_beginOne_1 : decode cX0_beginOne 1 = .ok (.getfield 25, 3) := by decide +kernel
theorem dX0_beginOne_4 : decode cX0_beginOne 4 = .ok (.getfield 80, 3) := by decide +kernel
theorem dX0_beginOne_7 : decode cX0_beginOne 7 = .ok (.iload_n 1, 1) := by decide +kernel
theorem dX0_beginOne_8 : decode cX0_beginOne 8 = .ok (.if_icmp .gt 31, 3) := by decide +kernel
theorem dX0_beginOne_11 : decode cX0_beginOne 11 = .ok (.aload_n 0, 1) := by decide +kernel
theorem dX0_beginOne_12 : decode cX0_beginOne 12 = .ok (.iload_n 1, 1) := by decide +kernel
theorem dX0_beginOne_13 : decode cX0_beginOne 13 = .ok (.invokevirtual 83, 3) := by decide +kernel
theorem dX0_beginOne_16 : decode cX0_beginOne 16 = .ok (.ifCond .ne 23, 3) := by decide +kernel
theorem dX0_beginOne_19 : decode cX0_beginOne 19 = .ok (.aload_n 0, 1) := by decide +kernel
theorem dX0_beginOne_20 : decode cX0_beginOne 20 = .ok (.getfield 25, 3) := by decide +kernel
theorem dX0_beginOne_23 : decode cX0_beginOne 23 = .ok (.iload_n 1, 1) := by decide +kernel
theorem dX0_beginOne_24 : decode cX0_beginOne 24 = .ok (.invokevirtual 86, 3) := by decide +kernel
theorem dX0_beginOne_27 : decode cX0_beginOne 27 = .ok (.aload_n 0, 1) := by decide +kernel
theorem dX0_beginOne_28 : decode cX0_beginOne 28 = .ok (.dup, 1) := by decide +kernel
theorem dX0_beginOne_29 : decode cX0_beginOne 29 = .ok (.getfield 59, 3) := by decide +kernel
theorem dX0_beginOne_32 : decode cX0_beginOne 32 = .ok (.iconst 1, 1) := by decide +kernel
theorem dX0_beginOne_33 : decode cX0_beginOne 33 = .ok (.iadd, 1) := by decide +kernel
theorem dX0_beginOne_34 : decode cX0_beginOne 34 = .ok (.putfield 59, 3) := by decide +kernel
theorem dX0_beginOne_37 : decode cX0_beginOne 37 = .ok (.iconst 1, 1) := by decide +kernel
theorem dX0_beginOne_38 : decode cX0_beginOne 38 = .ok (.ireturn, 1) := by decide +kernel
theorem dX0_beginOne_39 : decode cX0_beginOne 39 = .ok (.aload_n 0, 1) := by decide +kernel
theorem dX0_beginOne_40 : decode cX0_beginOne 40 = .ok (.iload_n 1, 1) := by decide +kernel
theorem dX0_beginOne_41 : decode cX0_beginOne 41 = .ok (.invokevirtual 90, 3) := by decide +kernel
theorem dX0_beginOne_44 : decode cX0_beginOne 44 = .ok (.istore_n 2, 1) := by decide +kernel
theorem dX0_beginOne_45 : decode cX0_beginOne 45 = .ok (.iload_n 2, 1) := by decide +kernel
theorem dX0_beginOne_46 : decode cX0_beginOne 46 = .ok (.ifCond .ge 5, 3) := by decide +kernel
theorem dX0_beginOne_49 : decode cX0_beginOne 49 = .ok (.iconst 0, 1) := by decide +kernel
theorem dX0_beginOne_50 : decode cX0_beginOne 50 = .ok (.ireturn, 1) := by decide +kernel
theorem dX0_beginOne_51 : decode cX0_beginOne 51 = .ok (.aload_n 0, 1) := by decide +kernel
theorem dX0_beginOne_52 : decode cX0_beginOne 52 = .ok (.getfield 25, 3) := by decide +kernel
theorem dX0_beginOne_55 : decode cX0_beginOne 55 = .ok (.aload_n 0, 1) := by decide +kernel
theorem dX0_beginOne_56 : decode cX0_beginOne 56 = .ok (.getfield 29, 3) := by decide +kernel
theorem dX0_beginOne_59 : decode cX0_beginOne 59 = .ok (.iload_n 2, 1) := by decide +kernel
theorem dX0_beginOne_60 : decode cX0_beginOne 60 = .ok (.iaload, 1) := by decide +kernel
theorem dX0_beginOne_61 : decode cX0_beginOne 61 = .ok (.iload_n 1, 1) := by decide +kernel
theorem dX0_beginOne_62 : decode cX0_beginOne 62 = .ok (.invokevirtual 93, 3) := by decide +kernel
theorem dX0_beginOne_65 : decode cX0_beginOne 65 = .ok (.aload_n 0, 1) := by decide +kernel
theorem dX0_beginOne_66 : decode cX0_beginOne 66 = .ok (.getfield 18, 3) := by decide +kernel
theorem dX0_beginOne_69 : decode cX0_beginOne 69 = .ok (.iload_n 2, 1) := by decide +kernel
theorem dX0_beginOne_70 : decode cX0_beginOne 70 = .ok (.iload_n 1, 1) := by decide +kernel
theorem dX0_beginOne_71 : decode cX0_beginOne 71 = .ok (.iastore, 1) := by decide +kernel
theorem dX0_beginOne_72 : decode cX0_beginOne 72 = .ok (.iconst 1, 1) := by decide +kernel
theorem dX0_beginOne_73 : decode cX0_beginOne 73 = .ok (.ireturn, 1) := by decide +kernel
theorem dX0_hangs_0 : decode cX0_hangs 0 = .ok (.aload_n 0, 1) := by decide +kernel
theorem dX0_hangs_1 : decode cX0_hangs 1 = .ok (.getfield 12, 3) := by decide +kernel
theorem dX0_hangs_4 : decode cX0_hangs 4 = .ok (.getfield 68, 3) := by decide +kernel
theorem dX0_hangs_7 : decode cX0_hangs 7 = .ok (.bipush 8, 2) := by decide +kernel
theorem dX0_hangs_9 : decode cX0_hangs 9 = .ok (.iaload, 1) := by decide +kernel
theorem dX0_hangs_10 : decode cX0_hangs 10 = .ok (.iconst 1, 1) := by decide +kernel
theorem dX0_hangs_11 : decode cX0_hangs 11 = .ok (.if_icmp .ne 26, 3) := by decide +kernel
theorem dX0_hangs_14 : decode cX0_hangs 14 = .ok (.aload_n 0, 1) := by decide +kernel
theorem dX0_hangs_15 : decode cX0_hangs 15 = .ok (.getfield 25, 3) := by decide +kernel
theorem dX0_hangs_18 : decode cX0_hangs 18 = .ok (.getfield 97, 3) := by decide +kernel
theorem dX0_hangs_21 : decode cX0_hangs 21 = .ok (.iload_n 1, 1) := by decide +kernel
theorem dX0_hangs_22 : decode cX0_hangs 22 = .ok (.if_icmp .gt 15, 3) := by decide +kernel
theorem dX0_hangs_25 : decode cX0_hangs 25 = .ok (.aload_n 0, 1) := by decide +kernel
theorem dX0_hangs_26 : decode cX0_hangs 26 = .ok (.iload_n 1, 1) := by decide +kernel
theorem dX0_hangs_27 : decode cX0_hangs 27 = .ok (.invokevirtual 100, 3) := by decide +kernel
theorem dX0_hangs_30 : decode cX0_hangs 30 = .ok (.ifCond .eq 7, 3) := by decide +kernel
theorem dX0_hangs_33 : decode cX0_hangs 33 = .ok (.iconst 1, 1) := by decide +kernel
theorem dX0_hangs_34 : decode cX0_hangs 34 = .ok (.goto 4, 3) := by decide +kernel
theorem dX0_hangs_37 : decode cX0_hangs 37 = .ok (.iconst 0, 1) := by decide +kernel
theorem dX0_hangs_38 : decode cX0_hangs 38 = .ok (.ireturn, 1) := by decide +kernel
theorem dX0_someWaits_0 : decode cX0_someWaits 0 = .ok (.iconst 0, 1) := by decide +kernel
theorem dX0_someWaits_1 : decode cX0_someWaits 1 = .ok (.istore_n 2, 1) := by decide +kernel
theorem dX0_someWaits_2 : decode cX0_someWaits 2 = .ok (.iload_n 2, 1) := by decide +kernel
theorem dX0_someWaits_3 : decode cX0_someWaits 3 = .ok (.aload_n 0, 1) := by decide +kernel
theorem dX0_someWaits_4 : decode cX0_someWaits 4 = .ok (.getfield 12, 3) := by decide +kernel
theorem dX0_someWaits_7 : decode cX0_someWaits 7 = .ok (.getfield 46, 3) := by decide +kernel
theorem dX0_someWaits_10 : decode cX0_someWaits 10 = .ok (.if_icmp .ge 32, 3) := by decide +kernel
theorem dX0_someWaits_13 : decode cX0_someWaits 13 = .ok (.aload_n 0, 1) := by decide +kernel
theorem dX0_someWaits_14 : decode cX0_someWaits 14 = .ok (.iload_n 2, 1) := by decide +kernel
theorem dX0_someWaits_15 : decode cX0_someWaits 15 = .ok (.invokevirtual 103, 3) := by decide +kernel
theorem dX0_someWaits_18 : decode cX0_someWaits 18 = .ok (.ifCond .eq 18, 3) := by decide +kernel
theorem dX0_someWaits_21 : decode cX0_someWaits 21 = .ok (.aload_n 0, 1) := by decide +kernel
theorem dX0_someWaits_22 : decode cX0_someWaits 22 = .ok (.getfield 12, 3) := by decide +kernel
theorem dX0_someWaits_25 : decode cX0_someWaits 25 = .ok (.getfield 50, 3) := by decide +kernel
theorem dX0_someWaits_28 : decode cX0_someWaits 28 = .ok (.iload_n 2, 1) := by decide +kernel
theorem dX0_someWaits_29 : decode cX0_someWaits 29 = .ok (.iaload, 1) := by decide +kernel
theorem dX0_someWaits_30 : decode cX0_someWaits 30 = .ok (.iload_n 1, 1) := by decide +kernel
theorem dX0_someWaits_31 : decode cX0_someWaits 31 = .ok (.if_icmp .gt 5, 3) := by decide +kernel
theorem dX0_someWaits_34 : decode cX0_someWaits 34 = .ok (.iconst 1, 1) := by decide +kernel
theorem dX0_someWaits_35 : decode cX0_someWaits 35 = .ok (.ireturn, 1) := by decide +kernel
theorem dX0_someWaits_36 : decode cX0_someWaits 36 = .ok (.iinc 2 1, 3) := by decide +kernel
theorem dX0_someWaits_39 : decode cX0_someWaits 39 = .ok (.goto (-37), 3) := by decide +kernel
theorem dX0_someWaits_42 : decode cX0_someWaits 42 = .ok (.iconst 0, 1) := by decide +kernel
theorem dX0_someWaits_43 : decode cX0_someWaits 43 = .ok (.ireturn, 1) := by decide +kernel
theorem dX0_firstThatCan_0 : decode cX0_firstThatCan 0 = .ok (.iconst (-1), 1) := by decide +kernel
theorem dX0_firstThatCan_1 : decode cX0_firstThatCan 1 = .ok (.istore_n 2, 1) := by decide +kernel
theorem dX0_firstThatCan_2 : decode cX0_firstThatCan 2 = .ok (.iconst 0, 1) := by decide +kernel
theorem dX0_firstThatCan_3 : decode cX0_firstThatCan 3 = .ok (.istore_n 3, 1) := by decide +kernel
theorem dX0_firstThatCan_4 : decode cX0_firstThatCan 4 = .ok (.iload_n 3, 1) := by decide +kernel
theorem dX0_firstThatCan_5 : decode cX0_firstThatCan 5 = .ok (.aload_n 0, 1) := by decide +kernel
theorem dX0_firstThatCan_6 : decode cX0_firstThatCan 6 = .ok (.getfield 12, 3) := by decide +kernel
theorem dX0_firstThatCan_9 : decode cX0_firstThatCan 9 = .ok (.getfield 46, 3) := by decide +kernel
theorem dX0_firstThatCan_12 : decode cX0_firstThatCan 12 = .ok (.if_icmp .ge 33, 3) := by decide +kernel
theorem dX0_firstThatCan_15 : decode cX0_firstThatCan 15 = .ok (.aload_n 0, 1) := by decide +kernel
theorem dX0_firstThatCan_16 : decode cX0_firstThatCan 16 = .ok (.iload_n 3, 1) := by decide +kernel
theorem dX0_firstThatCan_17 : decode cX0_firstThatCan 17 = .ok (.invokevirtual 106, 3) := by decide +kernel
theorem dX0_firstThatCan_20 : decode cX0_firstThatCan 20 = .ok (.iload_n 1, 1) := by decide +kernel
theorem dX0_firstThatCan_21 : decode cX0_firstThatCan 21 = .ok (.if_icmp .gt 18, 3) := by decide +kernel
theorem dX0_firstThatCan_24 : decode cX0_firstThatCan 24 = .ok (.iload_n 2, 1) := by decide +kernel
theorem dX0_firstThatCan_25 : decode cX0_firstThatCan 25 = .ok (.ifCond .lt 12, 3) := by decide +kernel
theorem dX0_firstThatCan_28 : decode cX0_firstThatCan 28 = .ok (.aload_n 0, 1) := by decide +kernel
theorem dX0_firstThatCan_29 : decode cX0_firstThatCan 29 = .ok (.iload_n 3, 1) := by decide +kernel
theorem dX0_firstThatCan_30 : decode cX0_firstThatCan 30 = .ok (.iload_n 2, 1) := by decide +kernel
theorem dX0_firstThatCan_31 : decode cX0_firstThatCan 31 = .ok (.invokevirtual 109, 3) := by decide +kernel
theorem dX0_firstThatCan_34 : decode cX0_firstThatCan 34 = .ok (.ifCond .eq 5, 3) := by decide +kernel
theorem dX0_firstThatCan_37 : decode cX0_firstThatCan 37 = .ok (.iload_n 3, 1) := by decide +kernel
theorem dX0_firstThatCan_38 : decode cX0_firstThatCan 38 = .ok (.istore_n 2, 1) := by decide +kernel
theorem dX0_firstThatCan_39 : decode cX0_firstThatCan 39 = .ok (.iinc 3 1, 3) := by decide +kernel
theorem dX0_firstThatCan_42 : decode cX0_firstThatCan 42 = .ok (.goto (-38), 3) := by decide +kernel
theorem dX0_firstThatCan_45 : decode cX0_firstThatCan 45 = .ok (.iload_n 2, 1) := by decide +kernel
theorem dX0_firstThatCan_46 : decode cX0_firstThatCan 46 = .ok (.ireturn, 1) := by decide +kernel
theorem dX0_isToCome_0 : decode cX0_isToCome 0 = .ok (.aload_n 0, 1) := by decide +kernel
theorem dX0_isToCome_1 : decode cX0_isToCome 1 = .ok (.getfield 18, 3) := by decide +kernel
theorem dX0_isToCome_4 : decode cX0_isToCome 4 = .ok (.iload_n 1, 1) := by decide +kernel
theorem dX0_isToCome_5 : decode cX0_isToCome 5 = .ok (.iaload, 1) := by decide +kernel
theorem dX0_isToCome_6 : decode cX0_isToCome 6 = .ok (.bipush (-9), 2) := by decide +kernel
theorem dX0_isToCome_8 : decode cX0_isToCome 8 = .ok (.if_icmp .ne 17, 3) := by decide +kernel
theorem dX0_isToCome_11 : decode cX0_isToCome 11 = .ok (.aload_n 0, 1) := by decide +kernel
theorem dX0_isToCome_12 : decode cX0_isToCome 12 = .ok (.getfield 29, 3) := by decide +kernel
theorem dX0_isToCome_15 : decode cX0_isToCome 15 = .ok (.iload_n 1, 1) := by decide +kernel
theorem dX0_isToCome_16 : decode cX0_isToCome 16 = .ok (.iaload, 1) := by decide +kernel
theorem dX0_isToCome_17 : decode cX0_isToCome 17 = .ok (.iconst 3, 1) := by decide +kernel
theorem dX0_isToCome_18 : decode cX0_isToCome 18 = .ok (.if_icmp .eq 7, 3) := by decide +kernel
theorem dX0_isToCome_21 : decode cX0_isToCome 21 = .ok (.iconst 1, 1) := by decide +kernel
theorem dX0_isToCome_22 : decode cX0_isToCome 22 = .ok (.goto 4, 3) := by decide +kernel
theorem dX0_isToCome_25 : decode cX0_isToCome 25 = .ok (.iconst 0, 1) := by decide +kernel
theorem dX0_isToCome_26 : decode cX0_isToCome 26 = .ok (.ireturn, 1) := by decide +kernel
theorem dX0_canFrom_0 : decode cX0_canFrom 0 = .ok (.aload_n 0, 1) := by decide +kernel
theorem dX0_canFrom_1 : decode cX0_canFrom 1 = .ok (.iload_n 1, 1) := by decide +kernel
theorem dX0_canFrom_2 : decode cX0_canFrom 2 = .ok (.invokevirtual 103, 3) := by decide +kernel
theorem dX0_canFrom_5 : decode cX0_canFrom 5 = .ok (.ifCond .eq 32, 3) := by decide +kernel
theorem dX0_canFrom_8 : decode cX0_canFrom 8 = .ok (.aload_n 0, 1) := by decide +kernel
theorem dX0_canFrom_9 : decode cX0_canFrom 9 = .ok (.getfield 12, 3) := by decide +kernel
theorem dX0_canFrom_12 : decode cX0_canFrom 12 = .ok (.getfield 50, 3) := by decide +kernel
theorem dX0_canFrom_15 : decode cX0_canFrom 15 = .ok (.iload_n 1, 1) := by decide +kernel
theorem dX0_canFrom_16 : decode cX0_canFrom 16 = .ok (.iaload, 1) := by decide +kernel
theorem dX0_canFrom_17 : decode cX0_canFrom 17 = .ok (.aload_n 0, 1) := by decide +kernel
theorem dX0_canFrom_18 : decode cX0_canFrom 18 = .ok (.getfield 25, 3) := by decide +kernel
theorem dX0_canFrom_21 : decode cX0_canFrom 21 = .ok (.getfield 113, 3) := by decide +kernel
theorem dX0_canFrom_24 : decode cX0_canFrom 24 = .ok (.aload_n 0, 1) := by decide +kernel
theorem dX0_canFrom_25 : decode cX0_canFrom 25 = .ok (.getfield 29, 3) := by decide +kernel
theorem dX0_canFrom_28 : decode cX0_canFrom 28 = .ok (.iload_n 1, 1) := by decide +kernel
theorem dX0_canFrom_29 : decode cX0_canFrom 29 = .ok (.iaload, 1) := by decide +kernel
theorem dX0_canFrom_30 : decode cX0_canFrom 30 = .ok (.iaload, 1) := by decide +kernel
theorem dX0_canFrom_31 : decode cX0_canFrom 31 = .ok (.invokestatic 116, 3) := by decide +kernel
theorem dX0_canFrom_34 : decode cX0_canFrom 34 = .ok (.goto 5, 3) := by decide +kernel
theorem dX0_canFrom_37 : decode cX0_canFrom 37 = .ok (.ldc 122, 2) := by decide +kernel
theorem dX0_canFrom_39 : decode cX0_canFrom 39 = .ok (.ireturn, 1) := by decide +kernel
theorem dX0_isBefore_0 : decode cX0_isBefore 0 = .ok (.aload_n 0, 1) := by decide +kernel
theorem dX0_isBefore_1 : decode cX0_isBefore 1 = .ok (.getfield 32, 3) := by decide +kernel
theorem dX0_isBefore_4 : decode cX0_isBefore 4 = .ok (.iload_n 1, 1) := by decide +kernel
theorem dX0_isBefore_5 : decode cX0_isBefore 5 = .ok (.iaload, 1) := by decide +kernel
theorem dX0_isBefore_6 : decode cX0_isBefore 6 = .ok (.aload_n 0, 1) := by decide +kernel
theorem dX0_isBefore_7 : decode cX0_isBefore 7 = .ok (.getfield 32, 3) := by decide +kernel
theorem dX0_isBefore_10 : decode cX0_isBefore 10 = .ok (.iload_n 2, 1) := by decide +kernel
theorem dX0_isBefore_11 : decode cX0_isBefore 11 = .ok (.iaload, 1) := by decide +kernel
theorem dX0_isBefore_12 : decode cX0_isBefore 12 = .ok (.if_icmp .eq 24, 3) := by decide +kernel
theorem dX0_isBefore_15 : decode cX0_isBefore 15 = .ok (.aload_n 0, 1) := by decide +kernel
theorem dX0_isBefore_16 : decode cX0_isBefore 16 = .ok (.getfield 32, 3) := by decide +kernel
theorem dX0_isBefore_19 : decode cX0_isBefore 19 = .ok (.iload_n 1, 1) := by decide +kernel
theorem dX0_isBefore_20 : decode cX0_isBefore 20 = .ok (.iaload, 1) := by decide +kernel
theorem dX0_isBefore_21 : decode cX0_isBefore 21 = .ok (.aload_n 0, 1) := by decide +kernel
theorem dX0_isBefore_22 : decode cX0_isBefore 22 = .ok (.getfield 32, 3) := by decide +kernel
theorem dX0_isBefore_25 : decode cX0_isBefore 25 = .ok (.iload_n 2, 1) := by decide +kernel
theorem dX0_isBefore_26 : decode cX0_isBefore 26 = .ok (.iaload, 1) := by decide +kernel
theorem dX0_isBefore_27 : decode cX0_isBefore 27 = .ok (.if_icmp .ge 7, 3) := by decide +kernel
theorem dX0_isBefore_30 : decode cX0_isBefore 30 = .ok (.iconst 1, 1) := by decide +kernel
theorem dX0_isBefore_31 : decode cX0_isBefore 31 = .ok (.goto 4, 3) := by decide +kernel
theorem dX0_isBefore_34 : decode cX0_isBefore 34 = .ok (.iconst 0, 1) := by decide +kernel
theorem dX0_isBefore_35 : decode cX0_isBefore 35 = .ok (.ireturn, 1) := by decide +kernel
theorem dX0_isBefore_36 : decode cX0_isBefore 36 = .ok (.aload_n 0, 1) := by decide +kernel
theorem dX0_isBefore_37 : decode cX0_isBefore 37 = .ok (.getfield 12, 3) := by decide +kernel
theorem dX0_isBefore_40 : decode cX0_isBefore 40 = .ok (.getfield 50, 3) := by decide +kernel
theorem dX0_isBefore_43 : decode cX0_isBefore 43 = .ok (.iload_n 1, 1) := by decide +kernel
theorem dX0_isBefore_44 : decode cX0_isBefore 44 = .ok (.iaload, 1) := by decide +kernel
theorem dX0_isBefore_45 : decode cX0_isBefore 45 = .ok (.aload_n 0, 1) := by decide +kernel
theorem dX0_isBefore_46 : decode cX0_isBefore 46 = .ok (.getfield 12, 3) := by decide +kernel
theorem dX0_isBefore_49 : decode cX0_isBefore 49 = .ok (.getfield 50, 3) := by decide +kernel
theorem dX0_isBefore_52 : decode cX0_isBefore 52 = .ok (.iload_n 2, 1) := by decide +kernel
theorem dX0_isBefore_53 : decode cX0_isBefore 53 = .ok (.iaload, 1) := by decide +kernel
theorem dX0_isBefore_54 : decode cX0_isBefore 54 = .ok (.if_icmp .eq 30, 3) := by decide +kernel
theorem dX0_isBefore_57 : decode cX0_isBefore 57 = .ok (.aload_n 0, 1) := by decide +kernel
theorem dX0_isBefore_58 : decode cX0_isBefore 58 = .ok (.getfield 12, 3) := by decide +kernel
theorem dX0_isBefore_61 : decode cX0_isBefore 61 = .ok (.getfield 50, 3) := by decide +kernel
theorem dX0_isBefore_64 : decode cX0_isBefore 64 = .ok (.iload_n 1, 1) := by decide +kernel
theorem dX0_isBefore_65 : decode cX0_isBefore 65 = .ok (.iaload, 1) := by decide +kernel
theorem dX0_isBefore_66 : decode cX0_isBefore 66 = .ok (.aload_n 0, 1) := by decide +kernel
theorem dX0_isBefore_67 : decode cX0_isBefore 67 = .ok (.getfield 12, 3) := by decide +kernel
theorem dX0_isBefore_70 : decode cX0_isBefore 70 = .ok (.getfield 50, 3) := by decide +kernel
theorem dX0_isBefore_73 : decode cX0_isBefore 73 = .ok (.iload_n 2, 1) := by decide +kernel
theorem dX0_isBefore_74 : decode cX0_isBefore 74 = .ok (.iaload, 1) := by decide +kernel
theorem dX0_isBefore_75 : decode cX0_isBefore 75 = .ok (.if_icmp .ge 7, 3) := by decide +kernel
theorem dX0_isBefore_78 : decode cX0_isBefore 78 = .ok (.iconst 1, 1) := by decide +kernel
theorem dX0_isBefore_79 : decode cX0_isBefore 79 = .ok (.goto 4, 3) := by decide +kernel
theorem dX0_isBefore_82 : decode cX0_isBefore 82 = .ok (.iconst 0, 1) := by decide +kernel
theorem dX0_isBefore_83 : decode cX0_isBefore 83 = .ok (.ireturn, 1) := by decide +kernel
theorem dX0_isBefore_84 : decode cX0_isBefore 84 = .ok (.iload_n 1, 1) := by decide +kernel
theorem dX0_isBefore_85 : decode cX0_isBefore 85 = .ok (.iload_n 2, 1) := by decide +kernel
theorem dX0_isBefore_86 : decode cX0_isBefore 86 = .ok (.if_icmp .ge 7, 3) := by decide +kernel
theorem dX0_isBefore_89 : decode cX0_isBefore 89 = .ok (.iconst 1, 1) := by decide +kernel
theorem dX0_isBefore_90 : decode cX0_isBefore 90 = .ok (.goto 4, 3) := by decide +kernel
theorem dX0_isBefore_93 : decode cX0_isBefore 93 = .ok (.iconst 0, 1) := by decide +kernel
theorem dX0_isBefore_94 : decode cX0_isBefore 94 = .ok (.ireturn, 1) := by decide +kernel
theorem dX0_nextChance_0 : decode cX0_nextChance 0 = .ok (.aload_n 0, 1) := by decide +kernel
theorem dX0_nextChance_1 : decode cX0_nextChance 1 = .ok (.getfield 25, 3) := by decide +kernel
theorem dX0_nextChance_4 : decode cX0_nextChance 4 = .ok (.getfield 80, 3) := by decide +kernel
theorem dX0_nextChance_7 : decode cX0_nextChance 7 = .ok (.iload_n 1, 1) := by decide +kernel
theorem dX0_nextChance_8 : decode cX0_nextChance 8 = .ok (.if_icmp .le 13, 3) := by decide +kernel
theorem dX0_nextChance_11 : decode cX0_nextChance 11 = .ok (.aload_n 0, 1) := by decide +kernel
theorem dX0_nextChance_12 : decode cX0_nextChance 12 = .ok (.getfield 25, 3) := by decide +kernel
theorem dX0_nextChance_15 : decode cX0_nextChance 15 = .ok (.getfield 80, 3) := by decide +kernel
theorem dX0_nextChance_18 : decode cX0_nextChance 18 = .ok (.goto 5, 3) := by decide +kernel
theorem dX0_nextChance_21 : decode cX0_nextChance 21 = .ok (.ldc 122, 2) := by decide +kernel
theorem dX0_nextChance_23 : decode cX0_nextChance 23 = .ok (.istore_n 2, 1) := by decide +kernel
theorem dX0_nextChance_24 : decode cX0_nextChance 24 = .ok (.iconst 0, 1) := by decide +kernel
theorem dX0_nextChance_25 : decode cX0_nextChance 25 = .ok (.istore_n 3, 1) := by decide +kernel
theorem dX0_nextChance_26 : decode cX0_nextChance 26 = .ok (.iload_n 3, 1) := by decide +kernel
theorem dX0_nextChance_27 : decode cX0_nextChance 27 = .ok (.aload_n 0, 1) := by decide +kernel
theorem dX0_nextChance_28 : decode cX0_nextChance 28 = .ok (.getfield 12, 3) := by decide +kernel
theorem dX0_nextChance_31 : decode cX0_nextChance 31 = .ok (.getfield 46, 3) := by decide +kernel
theorem dX0_nextChance_34 : decode cX0_nextChance 34 = .ok (.if_icmp .ge 19, 3) := by decide +kernel
theorem dX0_nextChance_37 : decode cX0_nextChance 37 = .ok (.iload_n 2, 1) := by decide +kernel
theorem dX0_nextChance_38 : decode cX0_nextChance 38 = .ok (.aload_n 0, 1) := by decide +kernel
theorem dX0_nextChance_39 : decode cX0_nextChance 39 = .ok (.iload_n 3, 1) := by decide +kernel
theorem dX0_nextChance_40 : decode cX0_nextChance 40 = .ok (.invokevirtual 106, 3) := by decide +kernel
theorem dX0_nextChance_43 : decode cX0_nextChance 43 = .ok (.invokestatic 123, 3) := by decide +kernel
theorem dX0_nextChance_46 : decode cX0_nextChance 46 = .ok (.istore_n 2, 1) := by decide +kernel
theorem dX0_nextChance_47 : decode cX0_nextChance 47 = .ok (.iinc 3 1, 3) := by decide +kernel
theorem dX0_nextChance_50 : decode cX0_nextChance 50 = .ok (.goto (-24), 3) := by decide +kernel
theorem dX0_nextChance_53 : decode cX0_nextChance 53 = .ok (.iload_n 2, 1) := by decide +kernel
theorem dX0_nextChance_54 : decode cX0_nextChance 54 = .ok (.iload_n 1, 1) := by decide +kernel
theorem dX0_nextChance_55 : decode cX0_nextChance 55 = .ok (.iconst 1, 1) := by decide +kernel
theorem dX0_nextChance_56 : decode cX0_nextChance 56 = .ok (.iadd, 1) := by decide +kernel
theorem dX0_nextChance_57 : decode cX0_nextChance 57 = .ok (.invokestatic 116, 3) := by decide +kernel
theorem dX0_nextChance_60 : decode cX0_nextChance 60 = .ok (.ireturn, 1) := by decide +kernel
theorem dX1_init_0 : decode cX1_init 0 = .ok (.aload_n 0, 1) := by decide +kernel
theorem dX1_init_1 : decode cX1_init 1 = .ok (.invokespecial 3, 3) := by decide +kernel
theorem dX1_init_4 : decode cX1_init 4 = .ok (.aload_n 0, 1) := by decide +kernel
theorem dX1_init_5 : decode cX1_init 5 = .ok (.iconst 5, 1) := by decide +kernel
theorem dX1_init_6 : decode cX1_init 6 = .ok (.newarray .int, 2) := by decide +kernel
theorem dX1_init_8 : decode cX1_init 8 = .ok (.putfield 9, 3) := by decide +kernel
theorem dX1_init_11 : decode cX1_init 11 = .ok (.aload_n 0, 1) := by decide +kernel
theorem dX1_init_12 : decode cX1_init 12 = .ok (.iconst 5, 1) := by decide +kernel
theorem dX1_init_13 : decode cX1_init 13 = .ok (.newarray .int, 2) := by decide +kernel
theorem dX1_init_15 : decode cX1_init 15 = .ok (.putfield 15, 3) := by decide +kernel
theorem dX1_init_18 : decode cX1_init 18 = .ok (.aload_n 0, 1) := by decide +kernel
theorem dX1_init_19 : decode cX1_init 19 = .ok (.bipush 8, 2) := by decide +kernel
theorem dX1_init_21 : decode cX1_init 21 = .ok (.newarray .int, 2) := by decide +kernel
theorem dX1_init_23 : decode cX1_init 23 = .ok (.putfield 18, 3) := by decide +kernel
theorem dX1_init_26 : decode cX1_init 26 = .ok (.aload_n 0, 1) := by decide +kernel
theorem dX1_init_27 : decode cX1_init 27 = .ok (.bipush 8, 2) := by decide +kernel
theorem dX1_init_29 : decode cX1_init 29 = .ok (.newarray .int, 2) := by decide +kernel
theorem dX1_init_31 : decode cX1_init 31 = .ok (.putfield 21, 3) := by decide +kernel
theorem dX1_init_34 : decode cX1_init 34 = .ok (.aload_n 0, 1) := by decide +kernel
theorem dX1_init_35 : decode cX1_init 35 = .ok (.bipush 9, 2) := by decide +kernel
theorem dX1_init_37 : decode cX1_init 37 = .ok (.newarray .int, 2) := by decide +kernel
theorem dX1_init_39 : decode cX1_init 39 = .ok (.dup, 1) := by decide +kernel
theorem dX1_init_40 : decode cX1_init 40 = .ok (.iconst 0, 1) := by decide +kernel
theorem dX1_init_41 : decode cX1_init 41 = .ok (.sipush 300, 3) := by decide +kernel
theorem dX1_init_44 : decode cX1_init 44 = .ok (.iastore, 1) := by decide +kernel
theorem dX1_init_45 : decode cX1_init 45 = .ok (.dup, 1) := by decide +kernel
theorem dX1_init_46 : decode cX1_init 46 = .ok (.iconst 1, 1) := by decide +kernel
theorem dX1_init_47 : decode cX1_init 47 = .ok (.sipush 600, 3) := by decide +kernel
theorem dX1_init_50 : decode cX1_init 50 = .ok (.iastore, 1) := by decide +kernel
theorem dX1_init_51 : decode cX1_init 51 = .ok (.dup, 1) := by decide +kernel
theorem dX1_init_52 : decode cX1_init 52 = .ok (.iconst 2, 1) := by decide +kernel
theorem dX1_init_53 : decode cX1_init 53 = .ok (.bipush 20, 2) := by decide +kernel
theorem dX1_init_55 : decode cX1_init 55 = .ok (.iastore, 1) := by decide +kernel
theorem dX1_init_56 : decode cX1_init 56 = .ok (.dup, 1) := by decide +kernel
theorem dX1_init_57 : decode cX1_init 57 = .ok (.iconst 3, 1) := by decide +kernel
theorem dX1_init_58 : decode cX1_init 58 = .ok (.iconst 3, 1) := by decide +kernel
theorem dX1_init_59 : decode cX1_init 59 = .ok (.iastore, 1) := by decide +kernel
theorem dX1_init_60 : decode cX1_init 60 = .ok (.dup, 1) := by decide +kernel
theorem dX1_init_61 : decode cX1_init 61 = .ok (.iconst 4, 1) := by decide +kernel
theorem dX1_init_62 : decode cX1_init 62 = .ok (.iconst 2, 1) := by decide +kernel
theorem dX1_init_63 : decode cX1_init 63 = .ok (.iastore, 1) := by decide +kernel
theorem dX1_init_64 : decode cX1_init 64 = .ok (.dup, 1) := by decide +kernel
theorem dX1_init_65 : decode cX1_init 65 = .ok (.iconst 5, 1) := by decide +kernel
theorem dX1_init_66 : decode cX1_init 66 = .ok (.iconst 5, 1) := by decide +kernel
theorem dX1_init_67 : decode cX1_init 67 = .ok (.iastore, 1) := by decide +kernel
theorem dX1_init_68 : decode cX1_init 68 = .ok (.dup, 1) := by decide +kernel
theorem dX1_init_69 : decode cX1_init 69 = .ok (.bipush 6, 2) := by decide +kernel
theorem dX1_init_71 : decode cX1_init 71 = .ok (.iconst 0, 1) := by decide +kernel
theorem dX1_init_72 : decode cX1_init 72 = .ok (.iastore, 1) := by decide +kernel
theorem dX1_init_73 : decode cX1_init 73 = .ok (.dup, 1) := by decide +kernel
theorem dX1_init_74 : decode cX1_init 74 = .ok (.bipush 7, 2) := by decide +kernel
theorem dX1_init_76 : decode cX1_init 76 = .ok (.iconst 0, 1) := by decide +kernel
theorem dX1_init_77 : decode cX1_init 77 = .ok (.iastore, 1) := by decide +kernel
theorem dX1_init_78 : decode cX1_init 78 = .ok (.dup, 1) := by decide +kernel
theorem dX1_init_79 : decode cX1_init 79 = .ok (.bipush 8, 2) := by decide +kernel
theorem dX1_init_81 : decode cX1_init 81 = .ok (.iconst 0, 1) := by decide +kernel
theorem dX1_init_82 : decode cX1_init 82 = .ok (.iastore, 1) := by decide +kernel
theorem dX1_init_83 : decode cX1_init 83 = .ok (.putfield 24, 3) := by decide +kernel
theorem dX1_init_86 : decode cX1_init 86 = .ok (.aload_n 0, 1) := by decide +kernel
theorem dX1_init_87 : decode cX1_init 87 = .ok (.bipush 8, 2) := by decide +kernel
theorem dX1_init_89 : decode cX1_init 89 = .ok (.newarray .int, 2) := by decide +kernel
theorem dX1_init_91 : decode cX1_init 91 = .ok (.putfield 27, 3) := by decide +kernel
theorem dX1_init_94 : decode cX1_init 94 = .ok (.return_, 1) := by decide +kernel
theorem dX1_copyFrom_0 : decode cX1_copyFrom 0 = .ok (.aload_n 0, 1) := by decide +kernel
theorem dX1_copyFrom_1 : decode cX1_copyFrom 1 = .ok (.aload_n 1, 1) := by decide +kernel
theorem dX1_copyFrom_2 : decode cX1_copyFrom 2 = .ok (.getfield 30, 3) := by decide +kernel
theorem dX1_copyFrom_5 : decode cX1_copyFrom 5 = .ok (.putfield 30, 3) := by decide +kernel
theorem dX1_copyFrom_8 : decode cX1_copyFrom 8 = .ok (.aload_n 1, 1) := by decide +kernel
theorem dX1_copyFrom_9 : decode cX1_copyFrom 9 = .ok (.getfield 9, 3) := by decide +kernel
theorem dX1_copyFrom_12 : decode cX1_copyFrom 12 = .ok (.iconst 0, 1) := by decide +kernel
theorem dX1_copyFrom_13 : decode cX1_copyFrom 13 = .ok (.aload_n 0, 1) := by decide +kernel
theorem dX1_copyFrom_14 : decode cX1_copyFrom 14 = .ok (.getfield 9, 3) := by decide +kernel
theorem dX1_copyFrom_17 : decode cX1_copyFrom 17 = .ok (.iconst 0, 1) := by decide +kernel
theorem dX1_copyFrom_18 : decode cX1_copyFrom 18 = .ok (.iconst 5, 1) := by decide +kernel
theorem dX1_copyFrom_19 : decode cX1_copyFrom 19 = .ok (.invokestatic 34, 3) := by decide +kernel
theorem dX1_copyFrom_22 : decode cX1_copyFrom 22 = .ok (.aload_n 1, 1) := by decide +kernel
theorem dX1_copyFrom_23 : decode cX1_copyFrom 23 = .ok (.getfield 15, 3) := by decide +kernel
theorem dX1_copyFrom_26 : decode cX1_copyFrom 26 = .ok (.iconst 0, 1) := by decide +kernel
theorem dX1_copyFrom_27 : decode cX1_copyFrom 27 = .ok (.aload_n 0, 1) := by decide +kernel
theorem dX1_copyFrom_28 : decode cX1_copyFrom 28 = .ok (.getfield 15, 3) := by decide +kernel
theorem dX1_copyFrom_31 : decode cX1_copyFrom 31 = .ok (.iconst 0, 1) := by decide +kernel
theorem dX1_copyFrom_32 : decode cX1_copyFrom 32 = .ok (.iconst 5, 1) := by decide +kernel
theorem dX1_copyFrom_33 : decode cX1_copyFrom 33 = .ok (.invokestatic 34, 3) := by decide +kernel
theorem dX1_copyFrom_36 : decode cX1_copyFrom 36 = .ok (.aload_n 0, 1) := by decide +kernel
theorem dX1_copyFrom_37 : decode cX1_copyFrom 37 = .ok (.aload_n 1, 1) := by decide +kernel
theorem dX1_copyFrom_38 : decode cX1_copyFrom 38 = .ok (.getfield 40, 3) := by decide +kernel
theorem dX1_copyFrom_41 : decode cX1_copyFrom 41 = .ok (.putfield 40, 3) := by decide +kernel
theorem dX1_copyFrom_44 : decode cX1_copyFrom 44 = .ok (.aload_n 1, 1) := by decide +kernel
theorem dX1_copyFrom_45 : decode cX1_copyFrom 45 = .ok (.getfield 18, 3) := by decide +kernel
theorem dX1_copyFrom_48 : decode cX1_copyFrom 48 = .ok (.iconst 0, 1) := by decide +kernel
theorem dX1_copyFrom_49 : decode cX1_copyFrom 49 = .ok (.aload_n 0, 1) := by decide +kernel
theorem dX1_copyFrom_50 : decode cX1_copyFrom 50 = .ok (.getfield 18, 3) := by decide +kernel
theorem dX1_copyFrom_53 : decode cX1_copyFrom 53 = .ok (.iconst 0, 1) := by decide +kernel
theorem dX1_copyFrom_54 : decode cX1_copyFrom 54 = .ok (.bipush 8, 2) := by decide +kernel
theorem dX1_copyFrom_56 : decode cX1_copyFrom 56 = .ok (.invokestatic 34, 3) := by decide +kernel
theorem dX1_copyFrom_59 : decode cX1_copyFrom 59 = .ok (.aload_n 1, 1) := by decide +kernel
theorem dX1_copyFrom_60 : decode cX1_copyFrom 60 = .ok (.getfield 21, 3) := by decide +kernel
theorem dX1_copyFrom_63 : decode cX1_copyFrom 63 = .ok (.iconst 0, 1) := by decide +kernel
theorem dX1_copyFrom_64 : decode cX1_copyFrom 64 = .ok (.aload_n 0, 1) := by decide +kernel
theorem dX1_copyFrom_65 : decode cX1_copyFrom 65 = .ok (.getfield 21, 3) := by decide +kernel
theorem dX1_copyFrom_68 : decode cX1_copyFrom 68 = .ok (.iconst 0, 1) := by decide +kernel
theorem dX1_copyFrom_69 : decode cX1_copyFrom 69 = .ok (.bipush 8, 2) := by decide +kernel
theorem dX1_copyFrom_71 : decode cX1_copyFrom 71 = .ok (.invokestatic 34, 3) := by decide +kernel
theorem dX1_copyFrom_74 : decode cX1_copyFrom 74 = .ok (.aload_n 0, 1) := by decide +kernel
theorem dX1_copyFrom_75 : decode cX1_copyFrom 75 = .ok (.aload_n 1, 1) := by decide +kernel
theorem dX1_copyFrom_76 : decode cX1_copyFrom 76 = .ok (.getfield 43, 3) := by decide +kernel
theorem dX1_copyFrom_79 : decode cX1_copyFrom 79 = .ok (.putfield 43, 3) := by decide +kernel
theorem dX1_copyFrom_82 : decode cX1_copyFrom 82 = .ok (.aload_n 1, 1) := by decide +kernel
theorem dX1_copyFrom_83 : decode cX1_copyFrom 83 = .ok (.getfield 24, 3) := by decide +kernel
theorem dX1_copyFrom_86 : decode cX1_copyFrom 86 = .ok (.iconst 0, 1) := by decide +kernel
theorem dX1_copyFrom_87 : decode cX1_copyFrom 87 = .ok (.aload_n 0, 1) := by decide +kernel
theorem dX1_copyFrom_88 : decode cX1_copyFrom 88 = .ok (.getfield 24, 3) := by decide +kernel
theorem dX1_copyFrom_91 : decode cX1_copyFrom 91 = .ok (.iconst 0, 1) := by decide +kernel
theorem dX1_copyFrom_92 : decode cX1_copyFrom 92 = .ok (.bipush 9, 2) := by decide +kernel
theorem dX1_copyFrom_94 : decode cX1_copyFrom 94 = .ok (.invokestatic 34, 3) := by decide +kernel
theorem dX1_copyFrom_97 : decode cX1_copyFrom 97 = .ok (.aload_n 0, 1) := by decide +kernel
theorem dX1_copyFrom_98 : decode cX1_copyFrom 98 = .ok (.aload_n 1, 1) := by decide +kernel
theorem dX1_copyFrom_99 : decode cX1_copyFrom 99 = .ok (.getfield 46, 3) := by decide +kernel
theorem dX1_copyFrom_102 : decode cX1_copyFrom 102 = .ok (.putfield 46, 3) := by decide +kernel
theorem dX1_copyFrom_105 : decode cX1_copyFrom 105 = .ok (.aload_n 1, 1) := by decide +kernel
theorem dX1_copyFrom_106 : decode cX1_copyFrom 106 = .ok (.getfield 27, 3) := by decide +kernel
theorem dX1_copyFrom_109 : decode cX1_copyFrom 109 = .ok (.iconst 0, 1) := by decide +kernel
theorem dX1_copyFrom_110 : decode cX1_copyFrom 110 = .ok (.aload_n 0, 1) := by decide +kernel
theorem dX1_copyFrom_111 : decode cX1_copyFrom 111 = .ok (.getfield 27, 3) := by decide +kernel
theorem dX1_copyFrom_114 : decode cX1_copyFrom 114 = .ok (.iconst 0, 1) := by decide +kernel
theorem dX1_copyFrom_115 : decode cX1_copyFrom 115 = .ok (.bipush 8, 2) := by decide +kernel
theorem dX1_copyFrom_117 : decode cX1_copyFrom 117 = .ok (.invokestatic 34, 3) := by decide +kernel
theorem dX1_copyFrom_120 : decode cX1_copyFrom 120 = .ok (.return_, 1) := by decide +kernel
theorem dX1_hasPiece_0 : decode cX1_hasPiece 0 = .ok (.iload_n 1, 1) := by decide +kernel
theorem dX1_hasPiece_1 : decode cX1_hasPiece 1 = .ok (.ifCond .lt 15, 3) := by decide +kernel
theorem dX1_hasPiece_4 : decode cX1_hasPiece 4 = .ok (.iload_n 1, 1) := by decide +kernel
theorem dX1_hasPiece_5 : decode cX1_hasPiece 5 = .ok (.aload_n 0, 1) := by decide +kernel
theorem dX1_hasPiece_6 : decode cX1_hasPiece 6 = .ok (.getfield 30, 3) := by decide +kernel
theorem dX1_hasPiece_9 : decode cX1_hasPiece 9 = .ok (.if_icmp .ge 7, 3) := by decide +kernel
theorem dX1_hasPiece_12 : decode cX1_hasPiece 12 = .ok (.iconst 1, 1) := by decide +kernel
theorem dX1_hasPiece_13 : decode cX1_hasPiece 13 = .ok (.goto 4, 3) := by decide +kernel
theorem dX1_hasPiece_16 : decode cX1_hasPiece 16 = .ok (.iconst 0, 1) := by decide +kernel
theorem dX1_hasPiece_17 : decode cX1_hasPiece 17 = .ok (.ireturn, 1) := by decide +kernel
theorem dX1_hasTrain_0 : decode cX1_hasTrain 0 = .ok (.iload_n 1, 1) := by decide +kernel
theorem dX1_hasTrain_1 : decode cX1_hasTrain 1 = .ok (.ifCond .lt 15, 3) := by decide +kernel
theorem dX1_hasTrain_4 : decode cX1_hasTrain 4 = .ok (.iload_n 1, 1) := by decide +kernel
theorem dX1_hasTrain_5 : decode cX1_hasTrain 5 = .ok (.aload_n 0, 1) := by decide +kernel
theorem dX1_hasTrain_6 : decode cX1_hasTrain 6 = .ok (.getfield 40, 3) := by decide +kernel
theorem dX1_hasTrain_9 : decode cX1_hasTrain 9 = .ok (.if_icmp .ge 7, 3) := by decide +kernel
theorem dX1_hasTrain_12 : decode cX1_hasTrain 12 = .ok (.iconst 1, 1) := by decide +kernel
theorem dX1_hasTrain_13 : decode cX1_hasTrain 13 = .ok (.goto 4, 3) := by decide +kernel
theorem dX1_hasTrain_16 : decode cX1_hasTrain 16 = .ok (.iconst 0, 1) := by decide +kernel
theorem dX1_hasTrain_17 : decode cX1_hasTrain 17 = .ok (.ireturn, 1) := by decide +kernel
theorem dX1_addPiece_0 : decode cX1_addPiece 0 = .ok (.iload_n 1, 1) := by decide +kernel
theorem dX1_addPiece_1 : decode cX1_addPiece 1 = .ok (.iconst 1, 1) := by decide +kernel
theorem dX1_addPiece_2 : decode cX1_addPiece 2 = .ok (.if_icmp .lt 17, 3) := by decide +kernel
theorem dX1_addPiece_5 : decode cX1_addPiece 5 = .ok (.iload_n 1, 1) := by decide +kernel
theorem dX1_addPiece_6 : decode cX1_addPiece 6 = .ok (.bipush 9, 2) := by decide +kernel
theorem dX1_addPiece_8 : decode cX1_addPiece 8 = .ok (.if_icmp .gt 11, 3) := by decide +kernel
theorem dX1_addPiece_11 : decode cX1_addPiece 11 = .ok (.aload_n 0, 1) := by decide +kernel
theorem dX1_addPiece_12 : decode cX1_addPiece 12 = .ok (.getfield 30, 3) := by decide +kernel
theorem dX1_addPiece_15 : decode cX1_addPiece 15 = .ok (.iconst 5, 1) := by decide +kernel
theorem dX1_addPiece_16 : decode cX1_addPiece 16 = .ok (.if_icmp .lt 5, 3) := by decide +kernel
theorem dX1_addPiece_19 : decode cX1_addPiece 19 = .ok (.iconst 0, 1) := by decide +kernel
theorem dX1_addPiece_20 : decode cX1_addPiece 20 = .ok (.ireturn, 1) := by decide +kernel
theorem dX1_addPiece_21 : decode cX1_addPiece 21 = .ok (.aload_n 0, 1) := by decide +kernel
theorem dX1_addPiece_22 : decode cX1_addPiece 22 = .ok (.getfield 9, 3) := by decide +kernel
theorem dX1_addPiece_25 : decode cX1_addPiece 25 = .ok (.aload_n 0, 1) := by decide +kernel
theorem dX1_addPiece_26 : decode cX1_addPiece 26 = .ok (.getfield 30, 3) := by decide +kernel
theorem dX1_addPiece_29 : decode cX1_addPiece 29 = .ok (.iload_n 1, 1) := by decide +kernel
theorem dX1_addPiece_30 : decode cX1_addPiece 30 = .ok (.iastore, 1) := by decide +kernel
theorem dX1_addPiece_31 : decode cX1_addPiece 31 = .ok (.aload_n 0, 1) := by decide +kernel
theorem dX1_addPiece_32 : decode cX1_addPiece 32 = .ok (.getfield 15, 3) := by decide +kernel
theorem dX1_addPiece_35 : decode cX1_addPiece 35 = .ok (.aload_n 0, 1) := by decide +kernel
theorem dX1_addPiece_36 : decode cX1_addPiece 36 = .ok (.getfield 30, 3) := by decide +kernel
theorem dX1_addPiece_39 : decode cX1_addPiece 39 = .ok (.iload_n 2, 1) := by decide +kernel
theorem dX1_addPiece_40 : decode cX1_addPiece 40 = .ok (.iastore, 1) := by decide +kernel
theorem dX1_addPiece_41 : decode cX1_addPiece 41 = .ok (.aload_n 0, 1) := by decide +kernel
theorem dX1_addPiece_42 : decode cX1_addPiece 42 = .ok (.dup, 1) := by decide +kernel
theorem dX1_addPiece_43 : decode cX1_addPiece 43 = .ok (.getfield 30, 3) := by decide +kernel
theorem dX1_addPiece_46 : decode cX1_addPiece 46 = .ok (.iconst 1, 1) := by decide +kernel
theorem dX1_addPiece_47 : decode cX1_addPiece 47 = .ok (.iadd, 1) := by decide +kernel
theorem dX1_addPiece_48 : decode cX1_addPiece 48 = .ok (.putfield 30, 3) := by decide +kernel
theorem dX1_addPiece_51 : decode cX1_addPiece 51 = .ok (.iconst 1, 1) := by decide +kernel
theorem dX1_addPiece_52 : decode cX1_addPiece 52 = .ok (.ireturn, 1) := by decide +kernel
theorem dX1_addTrain_0 : decode cX1_addTrain 0 = .ok (.iload_n 1, 1) := by decide +kernel
theorem dX1_addTrain_1 : decode cX1_addTrain 1 = .ok (.ifCond .lt 31, 3) := by decide +kernel
theorem dX1_addTrain_4 : decode cX1_addTrain 4 = .ok (.iload_n 1, 1) := by decide +kernel
theorem dX1_addTrain_5 : decode cX1_addTrain 5 = .ok (.sipush 600, 3) := by decide +kernel
theorem dX1_addTrain_8 : decode cX1_addTrain 8 = .ok (.if_icmp .gt 24, 3) := by decide +kernel
theorem dX1_addTrain_11 : decode cX1_addTrain 11 = .ok (.iload_n 2, 1) := by decide +kernel
theorem dX1_addTrain_12 : decode cX1_addTrain 12 = .ok (.iconst 1, 1) := by decide +kernel
theorem dX1_addTrain_13 : decode cX1_addTrain 13 = .ok (.if_icmp .lt 19, 3) := by decide +kernel
theorem dX1_addTrain_16 : decode cX1_addTrain 16 = .ok (.iload_n 2, 1) := by decide +kernel
theorem dX1_addTrain_17 : decode cX1_addTrain 17 = .ok (.sipush 999, 3) := by decide +kernel
theorem dX1_addTrain_20 : decode cX1_addTrain 20 = .ok (.if_icmp .gt 12, 3) := by decide +kernel
theorem dX1_addTrain_23 : decode cX1_addTrain 23 = .ok (.aload_n 0, 1) := by decide +kernel
theorem dX1_addTrain_24 : decode cX1_addTrain 24 = .ok (.getfield 40, 3) := by decide +kernel
theorem dX1_addTrain_27 : decode cX1_addTrain 27 = .ok (.bipush 8, 2) := by decide +kernel
theorem dX1_addTrain_29 : decode cX1_addTrain 29 = .ok (.if_icmp .lt 5, 3) := by decide +kernel
theorem dX1_addTrain_32 : decode cX1_addTrain 32 = .ok (.iconst 0, 1) := by decide +kernel
theorem dX1_addTrain_33 : decode cX1_addTrain 33 = .ok (.ireturn, 1) := by decide +kernel
theorem dX1_addTrain_34 : decode cX1_addTrain 34 = .ok (.aload_n 0, 1) := by decide +kernel
theorem dX1_addTrain_35 : decode cX1_addTrain 35 = .ok (.getfield 18, 3) := by decide +kernel
theorem dX1_addTrain_38 : decode cX1_addTrain 38 = .ok (.aload_n 0, 1) := by decide +kernel
theorem dX1_addTrain_39 : decode cX1_addTrain 39 = .ok (.getfield 40, 3) := by decide +kernel
theorem dX1_addTrain_42 : decode cX1_addTrain 42 = .ok (.iload_n 1, 1) := by decide +kernel
theorem dX1_addTrain_43 : decode cX1_addTrain 43 = .ok (.iastore, 1) := by decide +kernel
theorem dX1_addTrain_44 : decode cX1_addTrain 44 = .ok (.aload_n 0, 1) := by decide +kernel
theorem dX1_addTrain_45 : decode cX1_addTrain 45 = .ok (.getfield 21, 3) := by decide +kernel
theorem dX1_addTrain_48 : decode cX1_addTrain 48 = .ok (.aload_n 0, 1) := by decide +kernel
theorem dX1_addTrain_49 : decode cX1_addTrain 49 = .ok (.getfield 40, 3) := by decide +kernel
theorem dX1_addTrain_52 : decode cX1_addTrain 52 = .ok (.iload_n 2, 1) := by decide +kernel
theorem dX1_addTrain_53 : decode cX1_addTrain 53 = .ok (.iastore, 1) := by decide +kernel
theorem dX1_addTrain_54 : decode cX1_addTrain 54 = .ok (.aload_n 0, 1) := by decide +kernel
theorem dX1_addTrain_55 : decode cX1_addTrain 55 = .ok (.dup, 1) := by decide +kernel
theorem dX1_addTrain_56 : decode cX1_addTrain 56 = .ok (.getfield 40, 3) := by decide +kernel
theorem dX1_addTrain_59 : decode cX1_addTrain 59 = .ok (.iconst 1, 1) := by decide +kernel
theorem dX1_addTrain_60 : decode cX1_addTrain 60 = .ok (.iadd, 1) := by decide +kernel
theorem dX1_addTrain_61 : decode cX1_addTrain 61 = .ok (.putfield 40, 3) := by decide +kernel
theorem dX1_addTrain_64 : decode cX1_addTrain 64 = .ok (.iconst 1, 1) := by decide +kernel
theorem dX1_addTrain_65 : decode cX1_addTrain 65 = .ok (.ireturn, 1) := by decide +kernel
theorem dX1_putEngines_0 : decode cX1_putEngines 0 = .ok (.iload_n 1, 1) := by decide +kernel
theorem dX1_putEngines_1 : decode cX1_putEngines 1 = .ok (.ifCond .lt 8, 3) := by decide +kernel
theorem dX1_putEngines_4 : decode cX1_putEngines 4 = .ok (.iload_n 1, 1) := by decide +kernel
theorem dX1_putEngines_5 : decode cX1_putEngines 5 = .ok (.iconst 4, 1) := by decide +kernel
theorem dX1_putEngines_6 : decode cX1_putEngines 6 = .ok (.if_icmp .le 5, 3) := by decide +kernel
theorem dX1_putEngines_9 : decode cX1_putEngines 9 = .ok (.iconst 0, 1) := by decide +kernel
theorem dX1_putEngines_10 : decode cX1_putEngines 10 = .ok (.ireturn, 1) := by decide +kernel
theorem dX1_putEngines_11 : decode cX1_putEngines 11 = .ok (.aload_n 0, 1) := by decide +kernel
theorem dX1_putEngines_12 : decode cX1_putEngines 12 = .ok (.iload_n 1, 1) := by decide +kernel
theorem dX1_putEngines_13 : decode cX1_putEngines 13 = .ok (.putfield 43, 3) := by decide +kernel
theorem dX1_putEngines_16 : decode cX1_putEngines 16 = .ok (.iconst 1, 1) := by decide +kernel
theorem dX1_putEngines_17 : decode cX1_putEngines 17 = .ok (.ireturn, 1) := by decide +kernel
theorem dX1_makeAllWeigh_0 : decode cX1_makeAllWeigh 0 = .ok (.iconst 0, 1) := by decide +kernel
theorem dX1_makeAllWeigh_1 : decode cX1_makeAllWeigh 1 = .ok (.istore_n 2, 1) := by decide +kernel
theorem dX1_makeAllWeigh_2 : decode cX1_makeAllWeigh 2 = .ok (.iload_n 2, 1) := by decide +kernel
theorem dX1_makeAllWeigh_3 : decode cX1_makeAllWeigh 3 = .ok (.aload_n 0, 1) := by decide +kernel
theorem dX1_makeAllWeigh_4 : decode cX1_makeAllWeigh 4 = .ok (.getfield 40, 3) := by decide +kernel
theorem dX1_makeAllWeigh_7 : decode cX1_makeAllWeigh 7 = .ok (.if_icmp .ge 16, 3) := by decide +kernel
theorem dX1_makeAllWeigh_10 : decode cX1_makeAllWeigh 10 = .ok (.aload_n 0, 1) := by decide +kernel
theorem dX1_makeAllWeigh_11 : decode cX1_makeAllWeigh 11 = .ok (.getfield 21, 3) := by decide +kernel
theorem dX1_makeAllWeigh_14 : decode cX1_makeAllWeigh 14 = .ok (.iload_n 2, 1) := by decide +kernel
theorem dX1_makeAllWeigh_15 : decode cX1_makeAllWeigh 15 = .ok (.iload_n 1, 1) := by decide +kernel
theorem dX1_makeAllWeigh_16 : decode cX1_makeAllWeigh 16 = .ok (.iastore, 1) := by decide +kernel
theorem dX1_makeAllWeigh_17 : decode cX1_makeAllWeigh 17 = .ok (.iinc 2 1, 3) := by decide +kernel
theorem dX1_makeAllWeigh_20 : decode cX1_makeAllWeigh 20 = .ok (.goto (-18), 3) := by decide +kernel
theorem dX1_makeAllWeigh_23 : decode cX1_makeAllWeigh 23 = .ok (.return_, 1) := by decide +kernel
theorem dX1_baseMinutes_0 : decode cX1_baseMinutes 0 = .ok (.iconst 0, 1) := by decide +kernel
theorem dX1_baseMinutes_1 : decode cX1_baseMinutes 1 = .ok (.istore_n 1, 1) := by decide +kernel
theorem dX1_baseMinutes_2 : decode cX1_baseMinutes 2 = .ok (.iconst 0, 1) := by decide +kernel
theorem dX1_baseMinutes_3 : decode cX1_baseMinutes 3 = .ok (.istore_n 2, 1) := by decide +kernel
theorem dX1_baseMinutes_4 : decode cX1_baseMinutes 4 = .ok (.iload_n 2, 1) := by decide +kernel
theorem dX1_baseMinutes_5 : decode cX1_baseMinutes 5 = .ok (.aload_n 0, 1) := by decide +kernel
theorem dX1_baseMinutes_6 : decode cX1_baseMinutes 6 = .ok (.getfield 30, 3) := by decide +kernel
theorem dX1_baseMinutes_9 : decode cX1_baseMinutes 9 = .ok (.if_icmp .ge 18, 3) := by decide +kernel
theorem dX1_baseMinutes_12 : decode cX1_baseMinutes 12 = .ok (.iload_n 1, 1) := by decide +kernel
theorem dX1_baseMinutes_13 : decode cX1_baseMinutes 13 = .ok (.aload_n 0, 1) := by decide +kernel
theorem dX1_baseMinutes_14 : decode cX1_baseMinutes 14 = .ok (.getfield 9, 3) := by decide +kernel
theorem dX1_baseMinutes_17 : decode cX1_baseMinutes 17 = .ok (.iload_n 2, 1) := by decide +kernel
theorem dX1_baseMinutes_18 : decode cX1_baseMinutes 18 = .ok (.iaload, 1) := by decide +kernel
theorem dX1_baseMinutes_19 : decode cX1_baseMinutes 19 = .ok (.iadd, 1) := by decide +kernel
theorem dX1_baseMinutes_20 : decode cX1_baseMinutes 20 = .ok (.istore_n 1, 1) := by decide +kernel
theorem dX1_baseMinutes_21 : decode cX1_baseMinutes 21 = .ok (.iinc 2 1, 3) := by decide +kernel
theorem dX1_baseMinutes_24 : decode cX1_baseMinutes 24 = .ok (.goto (-20), 3) := by decide +kernel
theorem dX1_baseMinutes_27 : decode cX1_baseMinutes 27 = .ok (.iload_n 1, 1) := by decide +kernel
theorem dX1_baseMinutes_28 : decode cX1_baseMinutes 28 = .ok (.ireturn, 1) := by decide +kernel
theorem dX1_singles_0 : decode cX1_singles 0 = .ok (.iconst 0, 1) := by decide +kernel
theorem dX1_singles_1 : decode cX1_singles 1 = .ok (.istore_n 1, 1) := by decide +kernel
theorem dX1_singles_2 : decode cX1_singles 2 = .ok (.iconst 0, 1) := by decide +kernel
theorem dX1_singles_3 : decode cX1_singles 3 = .ok (.istore_n 2, 1) := by decide +kernel
theorem dX1_singles_4 : decode cX1_singles 4 = .ok (.iload_n 2, 1) := by decide +kernel
theorem dX1_singles_5 : decode cX1_singles 5 = .ok (.aload_n 0, 1) := by decide +kernel
theorem dX1_singles_6 : decode cX1_singles 6 = .ok (.getfield 30, 3) := by decide +kernel
theorem dX1_singles_9 : decode cX1_singles 9 = .ok (.if_icmp .ge 21, 3) := by decide +kernel
theorem dX1_singles_12 : decode cX1_singles 12 = .ok (.aload_n 0, 1) := by decide +kernel
theorem dX1_singles_13 : decode cX1_singles 13 = .ok (.getfield 15, 3) := by decide +kernel
theorem dX1_singles_16 : decode cX1_singles 16 = .ok (.iload_n 2, 1) := by decide +kernel
theorem dX1_singles_17 : decode cX1_singles 17 = .ok (.iaload, 1) := by decide +kernel
theorem dX1_singles_18 : decode cX1_singles 18 = .ok (.ifCond .ne 6, 3) := by decide +kernel
theorem dX1_singles_21 : decode cX1_singles 21 = .ok (.iinc 1 1, 3) := by decide +kernel
theorem dX1_singles_24 : decode cX1_singles 24 = .ok (.iinc 2 1, 3) := by decide +kernel
theorem dX1_singles_27 : decode cX1_singles 27 = .ok (.goto (-23), 3) := by decide +kernel
theorem dX1_singles_30 : decode cX1_singles 30 = .ok (.iload_n 1, 1) := by decide +kernel
theorem dX1_singles_31 : decode cX1_singles 31 = .ok (.ireturn, 1) := by decide +kernel
theorem dX1_onThisRail_0 : decode cX1_onThisRail 0 = .ok (.aload_n 0, 1) := by decide +kernel
theorem dX1_onThisRail_1 : decode cX1_onThisRail 1 = .ok (.getfield 24, 3) := by decide +kernel
theorem dX1_onThisRail_4 : decode cX1_onThisRail 4 = .ok (.bipush 6, 2) := by decide +kernel
theorem dX1_onThisRail_6 : decode cX1_onThisRail 6 = .ok (.iaload, 1) := by decide +kernel
theorem dX1_onThisRail_7 : decode cX1_onThisRail 7 = .ok (.iconst 1, 1) := by decide +kernel
theorem dX1_onThisRail_8 : decode cX1_onThisRail 8 = .ok (.if_icmp .ne 19, 3) := by decide +kernel
theorem dX1_onThisRail_11 : decode cX1_onThisRail 11 = .ok (.iload_n 1, 1) := by decide +kernel
theorem dX1_onThisRail_12 : decode cX1_onThisRail 12 = .ok (.iload_n 1, 1) := by decide +kernel
theorem dX1_onThisRail_13 : decode cX1_onThisRail 13 = .ok (.aload_n 0, 1) := by decide +kernel
theorem dX1_onThisRail_14 : decode cX1_onThisRail 14 = .ok (.getfield 24, 3) := by decide +kernel
theorem dX1_onThisRail_17 : decode cX1_onThisRail 17 = .ok (.iconst 2, 1) := by decide +kernel
theorem dX1_onThisRail_18 : decode cX1_onThisRail 18 = .ok (.iaload, 1) := by decide +kernel
theorem dX1_onThisRail_19 : decode cX1_onThisRail 19 = .ok (.imul, 1) := by decide +kernel
theorem dX1_onThisRail_20 : decode cX1_onThisRail 20 = .ok (.bipush 100, 2) := by decide +kernel
theorem dX1_onThisRail_22 : decode cX1_onThisRail 22 = .ok (.idiv, 1) := by decide +kernel
theorem dX1_onThisRail_23 : decode cX1_onThisRail 23 = .ok (.isub, 1) := by decide +kernel
theorem dX1_onThisRail_24 : decode cX1_onThisRail 24 = .ok (.goto 4, 3) := by decide +kernel
theorem dX1_onThisRail_27 : decode cX1_onThisRail 27 = .ok (.iload_n 1, 1) := by decide +kernel
theorem dX1_onThisRail_28 : decode cX1_onThisRail 28 = .ok (.ireturn, 1) := by decide +kernel
theorem dX1_kindOf_0 : decode cX1_kindOf 0 = .ok (.iload_n 1, 1) := by decide +kernel
theorem dX1_kindOf_1 : decode cX1_kindOf 1 = .ok (.aload_n 0, 1) := by decide +kernel
theorem dX1_kindOf_2 : decode cX1_kindOf 2 = .ok (.aload_n 0, 1) := by decide +kernel
theorem dX1_kindOf_3 : decode cX1_kindOf 3 = .ok (.getfield 24, 3) := by decide +kernel
theorem dX1_kindOf_6 : decode cX1_kindOf 6 = .ok (.iconst 0, 1) := by decide +kernel
theorem dX1_kindOf_7 : decode cX1_kindOf 7 = .ok (.iaload, 1) := by decide +kernel
theorem dX1_kindOf_8 : decode cX1_kindOf 8 = .ok (.invokevirtual 49, 3) := by decide +kernel
theorem dX1_kindOf_11 : decode cX1_kindOf 11 = .ok (.if_icmp .gt 5, 3) := by decide +kernel
theorem dX1_kindOf_14 : decode cX1_kindOf 14 = .ok (.iconst 0, 1) := by decide +kernel
theorem dX1_kindOf_15 : decode cX1_kindOf 15 = .ok (.ireturn, 1) := by decide +kernel
theorem dX1_kindOf_16 : decode cX1_kindOf 16 = .ok (.aload_n 0, 1) := by decide +kernel
theorem dX1_kindOf_17 : decode cX1_kindOf 17 = .ok (.aload_n 0, 1) := by decide +kernel
theorem dX1_kindOf_18 : decode cX1_kindOf 18 = .ok (.getfield 24, 3) := by decide +kernel
theorem dX1_kindOf_21 : decode cX1_kindOf 21 = .ok (.iconst 1, 1) := by decide +kernel
theorem dX1_kindOf_22 : decode cX1_kindOf 22 = .ok (.iaload, 1) := by decide +kernel
theorem dX1_kindOf_23 : decode cX1_kindOf 23 = .ok (.invokevirtual 49, 3) := by decide +kernel
theorem dX1_kindOf_26 : decode cX1_kindOf 26 = .ok (.istore_n 2, 1) := by decide +kernel
theorem dX1_kindOf_27 : decode cX1_kindOf 27 = .ok (.iload_n 1, 1) := by decide +kernel
theorem dX1_kindOf_28 : decode cX1_kindOf 28 = .ok (.iload_n 2, 1) := by decide +kernel
theorem dX1_kindOf_29 : decode cX1_kindOf 29 = .ok (.if_icmp .gt 5, 3) := by decide +kernel
theorem dX1_kindOf_32 : decode cX1_kindOf 32 = .ok (.iconst 1, 1) := by decide +kernel
theorem dX1_kindOf_33 : decode cX1_kindOf 33 = .ok (.ireturn, 1) := by decide +kernel
theorem dX1_kindOf_34 : decode cX1_kindOf 34 = .ok (.iload_n 1, 1) := by decide +kernel
theorem dX1_kindOf_35 : decode cX1_kindOf 35 = .ok (.iconst 1, 1) := by decide +kernel
theorem dX1_kindOf_36 : decode cX1_kindOf 36 = .ok (.iadd, 1) := by decide +kernel
theorem dX1_kindOf_37 : decode cX1_kindOf 37 = .ok (.iconst 2, 1) := by decide +kernel
theorem dX1_kindOf_38 : decode cX1_kindOf 38 = .ok (.idiv, 1) := by decide +kernel
theorem dX1_kindOf_39 : decode cX1_kindOf 39 = .ok (.iload_n 2, 1) := by decide +kernel
theorem dX1_kindOf_40 : decode cX1_kindOf 40 = .ok (.if_icmp .gt 7, 3) := by decide +kernel
theorem dX1_kindOf_43 : decode cX1_kindOf 43 = .ok (.iconst 2, 1) := by decide +kernel
theorem dX1_kindOf_44 : decode cX1_kindOf 44 = .ok (.goto 4, 3) := by decide +kernel
theorem dX1_kindOf_47 : decode cX1_kindOf 47 = .ok (.iconst 3, 1) := by decide +kernel
theorem dX1_kindOf_48 : decode cX1_kindOf 48 = .ok (.ireturn, 1) := by decide +kernel
theorem dX1_climbMinutes_0 : decode cX1_climbMinutes 0 = .ok (.aload_n 0, 1) := by decide +kernel
theorem dX1_climbMinutes_1 : decode cX1_climbMinutes 1 = .ok (.invokevirtual 53, 3) := by decide +kernel
theorem dX1_climbMinutes_4 : decode cX1_climbMinutes 4 = .ok (.istore_n 2, 1) := by decide +kernel
theorem dX1_climbMinutes_5 : decode cX1_climbMinutes 5 = .ok (.aload_n 0, 1) := by decide +kernel
theorem dX1_climbMinutes_6 : decode cX1_climbMinutes 6 = .ok (.getfield 24, 3) := by decide +kernel
theorem dX1_climbMinutes_9 : decode cX1_climbMinutes 9 = .ok (.iconst 3, 1) := by decide +kernel
theorem dX1_climbMinutes_10 : decode cX1_climbMinutes 10 = .ok (.iaload, 1) := by decide +kernel
theorem dX1_climbMinutes_11 : decode cX1_climbMinutes 11 = .ok (.iload_n 2, 1) := by decide +kernel
theorem dX1_climbMinutes_12 : decode cX1_climbMinutes 12 = .ok (.iadd, 1) := by decide +kernel
theorem dX1_climbMinutes_13 : decode cX1_climbMinutes 13 = .ok (.aload_n 0, 1) := by decide +kernel
theorem dX1_climbMinutes_14 : decode cX1_climbMinutes 14 = .ok (.getfield 24, 3) := by decide +kernel
theorem dX1_climbMinutes_17 : decode cX1_climbMinutes 17 = .ok (.iconst 4, 1) := by decide +kernel
theorem dX1_climbMinutes_18 : decode cX1_climbMinutes 18 = .ok (.iaload, 1) := by decide +kernel
theorem dX1_climbMinutes_19 : decode cX1_climbMinutes 19 = .ok (.iadd, 1) := by decide +kernel
theorem dX1_climbMinutes_20 : decode cX1_climbMinutes 20 = .ok (.istore_n 3, 1) := by decide +kernel
theorem dX1_climbMinutes_21 : decode cX1_climbMinutes 21 = .ok (.iload_n 1, 1) := by decide +kernel
theorem dX1_climbMinutes_22 : decode cX1_climbMinutes 22 = .ok (.tableswitch 36 0 2 #[26, 28, 30], 26) := by decide +kernel
theorem dX1_climbMinutes_48 : decode cX1_climbMinutes 48 = .ok (.iload_n 2, 1) := by decide +kernel
theorem dX1_climbMinutes_49 : decode cX1_climbMinutes 49 = .ok (.ireturn, 1) := by decide +kernel
theorem dX1_climbMinutes_50 : decode cX1_climbMinutes 50 = .ok (.iload_n 3, 1) := by decide +kernel
theorem dX1_climbMinutes_51 : decode cX1_climbMinutes 51 = .ok (.ireturn, 1) := by decide +kernel
theorem dX1_climbMinutes_52 : decode cX1_climbMinutes 52 = .ok (.iconst 2, 1) := by decide +kernel
theorem dX1_climbMinutes_53 : decode cX1_climbMinutes 53 = .ok (.iload_n 3, 1) := by decide +kernel
theorem dX1_climbMinutes_54 : decode cX1_climbMinutes 54 = .ok (.imul, 1) := by decide +kernel
theorem dX1_climbMinutes_55 : decode cX1_climbMinutes 55 = .ok (.iload_n 2, 1) := by decide +kernel
theorem dX1_climbMinutes_56 : decode cX1_climbMinutes 56 = .ok (.iadd, 1) := by decide +kernel
theorem dX1_climbMinutes_57 : decode cX1_climbMinutes 57 = .ok (.ireturn, 1) := by decide +kernel
theorem dX1_climbMinutes_58 : decode cX1_climbMinutes 58 = .ok (.bipush (-9), 2) := by decide +kernel
theorem dX1_climbMinutes_60 : decode cX1_climbMinutes 60 = .ok (.ireturn, 1) := by decide +kernel
theorem dX1_areDifferentTrains_0 : decode cX1_areDifferentTrains 0 = .ok (.iconst 0, 1) := by decide +kernel
theorem dX1_areDifferentTrains_1 : decode cX1_areDifferentTrains 1 = .ok (.istore_n 3, 1) := by decide +kernel
theorem dX1_areDifferentTrains_2 : decode cX1_areDifferentTrains 2 = .ok (.iload_n 2, 1) := by decide +kernel
theorem dX1_areDifferentTrains_3 : decode cX1_areDifferentTrains 3 = .ok (.istore 4, 2) := by decide +kernel
theorem dX1_areDifferentTrains_5 : decode cX1_areDifferentTrains 5 = .ok (.iconst 0, 1) := by decide +kernel
theorem dX1_areDifferentTrains_6 : decode cX1_areDifferentTrains 6 = .ok (.istore 5, 2) := by decide +kernel
theorem dX1_areDifferentTrains_8 : decode cX1_areDifferentTrains 8 = .ok (.iload 5, 2) := by decide +kernel
theorem dX1_areDifferentTrains_10 : decode cX1_areDifferentTrains 10 = .ok (.iload_n 1, 1) := by decide +kernel
theorem dX1_areDifferentTrains_11 : decode cX1_areDifferentTrains 11 = .ok (.if_icmp .ge 51, 3) := by decide +kernel
theorem dX1_areDifferentTrains_14 : decode cX1_areDifferentTrains 14 = .ok (.iload 4, 2) := by decide +kernel
theorem dX1_areDifferentTrains_16 : decode cX1_areDifferentTrains 16 = .ok (.bipush 10, 2) := by decide +kernel
theorem dX1_areDifferentTrains_18 : decode cX1_areDifferentTrains 18 = .ok (.irem, 1) := by decide +kernel
theorem dX1_areDifferentTrains_19 : decode cX1_areDifferentTrains 19 = .ok (.istore 6, 2) := by decide +kernel
theorem dX1_areDifferentTrains_21 : decode cX1_areDifferentTrains 21 = .ok (.iload 4, 2) := by decide +kernel
theorem dX1_areDifferentTrains_23 : decode cX1_areDifferentTrains 23 = .ok (.bipush 10, 2) := by decide +kernel
theorem dX1_areDifferentTrains_25 : decode cX1_areDifferentTrains 25 = .ok (.idiv, 1) := by decide +kernel
theorem dX1_areDifferentTrains_26 : decode cX1_areDifferentTrains 26 = .ok (.istore 4, 2) := by decide +kernel
theorem dX1_areDifferentTrains_28 : decode cX1_areDifferentTrains 28 = .ok (.aload_n 0, 1) := by decide +kernel
theorem dX1_areDifferentTrains_29 : decode cX1_areDifferentTrains 29 = .ok (.iload 6, 2) := by decide +kernel
theorem dX1_areDifferentTrains_31 : decode cX1_areDifferentTrains 31 = .ok (.invokevirtual 57, 3) := by decide +kernel
theorem dX1_areDifferentTrains_34 : decode cX1_areDifferentTrains 34 = .ok (.ifCond .eq 13, 3) := by decide +kernel
theorem dX1_areDifferentTrains_37 : decode cX1_areDifferentTrains 37 = .ok (.iload_n 3, 1) := by decide +kernel
theorem dX1_areDifferentTrains_38 : decode cX1_areDifferentTrains 38 = .ok (.iload 6, 2) := by decide +kernel
theorem dX1_areDifferentTrains_40 : decode cX1_areDifferentTrains 40 = .ok (.ishr, 1) := by decide +kernel
theorem dX1_areDifferentTrains_41 : decode cX1_areDifferentTrains 41 = .ok (.iconst 1, 1) := by decide +kernel
theorem dX1_areDifferentTrains_42 : decode cX1_areDifferentTrains 42 = .ok (.iand, 1) := by decide +kernel
theorem dX1_areDifferentTrains_43 : decode cX1_areDifferentTrains 43 = .ok (.iconst 1, 1) := by decide +kernel
theorem dX1_areDifferentTrains_44 : decode cX1_areDifferentTrains 44 = .ok (.if_icmp .ne 5, 3) := by decide +kernel
theorem dX1_areDifferentTrains_47 : decode cX1_areDifferentTrains 47 = .ok (.iconst 0, 1) := by decide +kernel
theorem dX1_areDifferentTrains_48 : decode cX1_areDifferentTrains 48 = .ok (.ireturn, 1) := by decide +kernel
theorem dX1_areDifferentTrains_49 : decode cX1_areDifferentTrains 49 = .ok (.iload_n 3, 1) := by decide +kernel
theorem dX1_areDifferentTrains_50 : decode cX1_areDifferentTrains 50 = .ok (.iconst 1, 1) := by decide +kernel
theorem dX1_areDifferentTrains_51 : decode cX1_areDifferentTrains 51 = .ok (.iload 6, 2) := by decide +kernel
theorem dX1_areDifferentTrains_53 : decode cX1_areDifferentTrains 53 = .ok (.ishl, 1) := by decide +kernel
theorem dX1_areDifferentTrains_54 : decode cX1_areDifferentTrains 54 = .ok (.ior, 1) := by decide +kernel
theorem dX1_areDifferentTrains_55 : decode cX1_areDifferentTrains 55 = .ok (.istore_n 3, 1) := by decide +kernel
theorem dX1_areDifferentTrains_56 : decode cX1_areDifferentTrains 56 = .ok (.iinc 5 1, 3) := by decide +kernel
theorem dX1_areDifferentTrains_59 : decode cX1_areDifferentTrains 59 = .ok (.goto (-51), 3) := by decide +kernel
theorem dX1_areDifferentTrains_62 : decode cX1_areDifferentTrains 62 = .ok (.iconst 1, 1) := by decide +kernel
theorem dX1_areDifferentTrains_63 : decode cX1_areDifferentTrains 63 = .ok (.ireturn, 1) := by decide +kernel
theorem dX1_putOrder_0 : decode cX1_putOrder 0 = .ok (.iload_n 2, 1) := by decide +kernel
theorem dX1_putOrder_1 : decode cX1_putOrder 1 = .ok (.istore_n 3, 1) := by decide +kernel
theorem dX1_putOrder_2 : decode cX1_putOrder 2 = .ok (.iconst 0, 1) := by decide +kernel
theorem dX1_putOrder_3 : decode cX1_putOrder 3 = .ok (.istore 4, 2) := by decide +kernel
theorem dX1_putOrder_5 : decode cX1_putOrder 5 = .ok (.iload 4, 2) := by decide +kernel
theorem dX1_putOrder_7 : decode cX1_putOrder 7 = .ok (.iload_n 1, 1) := by decide +kernel
theorem dX1_putOrder_8 : decode cX1_putOrder 8 = .ok (.if_icmp .ge 32, 3) := by decide +kernel
theorem dX1_putOrder_11 : decode cX1_putOrder 11 = .ok (.iload 4, 2) := by decide +kernel
theorem dX1_putOrder_13 : decode cX1_putOrder 13 = .ok (.bipush 8, 2) := by decide +kernel
theorem dX1_putOrder_15 : decode cX1_putOrder 15 = .ok (.if_icmp .ge 25, 3) := by decide +kernel
theorem dX1_putOrder_18 : decode cX1_putOrder 18 = .ok (.aload_n 0, 1) := by decide +kernel
theorem dX1_putOrder_19 : decode cX1_putOrder 19 = .ok (.getfield 27, 3) := by decide +kernel
theorem dX1_putOrder_22 : decode cX1_putOrder 22 = .ok (.iload 4, 2) := by decide +kernel
theorem dX1_putOrder_24 : decode cX1_putOrder 24 = .ok (.iload_n 3, 1) := by decide +kernel
theorem dX1_putOrder_25 : decode cX1_putOrder 25 = .ok (.bipush 10, 2) := by decide +kernel
theorem dX1_putOrder_27 : decode cX1_putOrder 27 = .ok (.irem, 1) := by decide +kernel
theorem dX1_putOrder_28 : decode cX1_putOrder 28 = .ok (.iastore, 1) := by decide +kernel
theorem dX1_putOrder_29 : decode cX1_putOrder 29 = .ok (.iload_n 3, 1) := by decide +kernel
theorem dX1_putOrder_30 : decode cX1_putOrder 30 = .ok (.bipush 10, 2) := by decide +kernel
theorem dX1_putOrder_32 : decode cX1_putOrder 32 = .ok (.idiv, 1) := by decide +kernel
theorem dX1_putOrder_33 : decode cX1_putOrder 33 = .ok (.istore_n 3, 1) := by decide +kernel
theorem dX1_putOrder_34 : decode cX1_putOrder 34 = .ok (.iinc 4 1, 3) := by decide +kernel
theorem dX1_putOrder_37 : decode cX1_putOrder 37 = .ok (.goto (-32), 3) := by decide +kernel
theorem dX1_putOrder_40 : decode cX1_putOrder 40 = .ok (.aload_n 0, 1) := by decide +kernel
theorem dX1_putOrder_41 : decode cX1_putOrder 41 = .ok (.iload_n 1, 1) := by decide +kernel
theorem dX1_putOrder_42 : decode cX1_putOrder 42 = .ok (.putfield 46, 3) := by decide +kernel
theorem dX1_putOrder_45 : decode cX1_putOrder 45 = .ok (.return_, 1) := by decide +kernel
theorem dX1_orderByNumber_0 : decode cX1_orderByNumber 0 = .ok (.aload_n 0, 1) := by decide +kernel
theorem dX1_orderByNumber_1 : decode cX1_orderByNumber 1 = .ok (.aload_n 0, 1) := by decide +kernel
theorem dX1_orderByNumber_2 : decode cX1_orderByNumber 2 = .ok (.getfield 40, 3) := by decide +kernel
theorem dX1_orderByNumber_5 : decode cX1_orderByNumber 5 = .ok (.putfield 46, 3) := by decide +kernel
theorem dX1_orderByNumber_8 : decode cX1_orderByNumber 8 = .ok (.iconst 0, 1) := by decide +kernel
theorem dX1_orderByNumber_9 : decode cX1_orderByNumber 9 = .ok (.istore_n 1, 1) := by decide +kernel
theorem dX1_orderByNumber_10 : decode cX1_orderByNumber 10 = .ok (.iload_n 1, 1) := by decide +kernel
theorem dX1_orderByNumber_11 : decode cX1_orderByNumber 11 = .ok (.aload_n 0, 1) := by decide +kernel
theorem dX1_orderByNumber_12 : decode cX1_orderByNumber 12 = .ok (.getfield 40, 3) := by decide +kernel
theorem dX1_orderByNumber_15 : decode cX1_orderByNumber 15 = .ok (.if_icmp .ge 16, 3) := by decide +kernel
theorem dX1_orderByNumber_18 : decode cX1_orderByNumber 18 = .ok (.aload_n 0, 1) := by decide +kernel
theorem dX1_orderByNumber_19 : decode cX1_orderByNumber 19 = .ok (.getfield 27, 3) := by decide +kernel
theorem dX1_orderByNumber_22 : decode cX1_orderByNumber 22 = .ok (.iload_n 1, 1) := by decide +kernel
theorem dX1_orderByNumber_23 : decode cX1_orderByNumber 23 = .ok (.iload_n 1, 1) := by decide +kernel
theorem dX1_orderByNumber_24 : decode cX1_orderByNumber 24 = .ok (.iastore, 1) := by decide +kernel
theorem dX1_orderByNumber_25 : decode cX1_orderByNumber 25 = .ok (.iinc 1 1, 3) := by decide +kernel
theorem dX1_orderByNumber_28 : decode cX1_orderByNumber 28 = .ok (.goto (-18), 3) := by decide +kernel
theorem dX1_orderByNumber_31 : decode cX1_orderByNumber 31 = .ok (.return_, 1) := by decide +kernel
theorem dX1_goToNextOrder_0 : decode cX1_goToNextOrder 0 = .ok (.aload_n 0, 1) := by decide +kernel
theorem dX1_goToNextOrder_1 : decode cX1_goToNextOrder 1 = .ok (.getfield 46, 3) := by decide +kernel
theorem dX1_goToNextOrder_4 : decode cX1_goToNextOrder 4 = .ok (.iconst 2, 1) := by decide +kernel
theorem dX1_goToNextOrder_5 : decode cX1_goToNextOrder 5 = .ok (.isub, 1) := by decide +kernel
theorem dX1_goToNextOrder_6 : decode cX1_goToNextOrder 6 = .ok (.istore_n 1, 1) := by decide +kernel
theorem dX1_goToNextOrder_7 : decode cX1_goToNextOrder 7 = .ok (.iload_n 1, 1) := by decide +kernel
theorem dX1_goToNextOrder_8 : decode cX1_goToNextOrder 8 = .ok (.ifCond .lt 26, 3) := by decide +kernel
theorem dX1_goToNextOrder_11 : decode cX1_goToNextOrder 11 = .ok (.aload_n 0, 1) := by decide +kernel
theorem dX1_goToNextOrder_12 : decode cX1_goToNextOrder 12 = .ok (.getfield 27, 3) := by decide +kernel
theorem dX1_goToNextOrder_15 : decode cX1_goToNextOrder 15 = .ok (.iload_n 1, 1) := by decide +kernel
theorem dX1_goToNextOrder_16 : decode cX1_goToNextOrder 16 = .ok (.iaload, 1) := by decide +kernel
theorem dX1_goToNextOrder_17 : decode cX1_goToNextOrder 17 = .ok (.aload_n 0, 1) := by decide +kernel
theorem dX1_goToNextOrder_18 : decode cX1_goToNextOrder 18 = .ok (.getfield 27, 3) := by decide +kernel
theorem dX1_goToNextOrder_21 : decode cX1_goToNextOrder 21 = .ok (.iload_n 1, 1) := by decide +kernel
theorem dX1_goToNextOrder_22 : decode cX1_goToNextOrder 22 = .ok (.iconst 1, 1) := by decide +kernel
theorem dX1_goToNextOrder_23 : decode cX1_goToNextOrder 23 = .ok (.iadd, 1) := by decide +kernel
theorem dX1_goToNextOrder_24 : decode cX1_goToNextOrder 24 = .ok (.iaload, 1) := by decide +kernel
theorem dX1_goToNextOrder_25 : decode cX1_goToNextOrder 25 = .ok (.if_icmp .le 9, 3) := by decide +kernel
theorem dX1_goToNextOrder_28 : decode cX1_goToNextOrder 28 = .ok (.iinc 1 (-1), 3) := by decide +kernel
theorem dX1_goToNextOrder_31 : decode cX1_goToNextOrder 31 = .ok (.goto (-24), 3) := by decide +kernel
theorem dX1_goToNextOrder_34 : decode cX1_goToNextOrder 34 = .ok (.iload_n 1, 1) := by decide +kernel
theorem dX1_goToNextOrder_35 : decode cX1_goToNextOrder 35 = .ok (.ifCond .ge 5, 3) := by decide +kernel
theorem dX1_goToNextOrder_38 : decode cX1_goToNextOrder 38 = .ok (.iconst 0, 1) := by decide +kernel
theorem dX1_goToNextOrder_39 : decode cX1_goToNextOrder 39 = .ok (.ireturn, 1) := by decide +kernel
theorem dX1_goToNextOrder_40 : decode cX1_goToNextOrder 40 = .ok (.aload_n 0, 1) := by decide +kernel
theorem dX1_goToNextOrder_41 : decode cX1_goToNextOrder 41 = .ok (.getfield 46, 3) := by decide +kernel
theorem dX1_goToNextOrder_44 : decode cX1_goToNextOrder 44 = .ok (.iconst 1, 1) := by decide +kernel
theorem dX1_goToNextOrder_45 : decode cX1_goToNextOrder 45 = .ok (.isub, 1) := by decide +kernel
theorem dX1_goToNextOrder_46 : decode cX1_goToNextOrder 46 = .ok (.istore_n 2, 1) := by decide +kernel
theorem dX1_goToNextOrder_47 : decode cX1_goToNextOrder 47 = .ok (.iload_n 2, 1) := by decide +kernel
theorem dX1_goToNextOrder_48 : decode cX1_goToNextOrder 48 = .ok (.iload_n 1, 1) := by decide +kernel
theorem dX1_goToNextOrder_49 : decode cX1_goToNextOrder 49 = .ok (.if_icmp .le 24, 3) := by decide +kernel
theorem dX1_goToNextOrder_52 : decode cX1_goToNextOrder 52 = .ok (.aload_n 0, 1) := by decide +kernel
theorem dX1_goToNextOrder_53 : decode cX1_goToNextOrder 53 = .ok (.getfield 27, 3) := by decide +kernel
theorem dX1_goToNextOrder_56 : decode cX1_goToNextOrder 56 = .ok (.iload_n 2, 1) := by decide +kernel
theorem dX1_goToNextOrder_57 : decode cX1_goToNextOrder 57 = .ok (.iaload, 1) := by decide +kernel
theorem dX1_goToNextOrder_58 : decode cX1_goToNextOrder 58 = .ok (.aload_n 0, 1) := by decide +kernel
theorem dX1_goToNextOrder_59 : decode cX1_goToNextOrder 59 = .ok (.getfield 27, 3) := by decide +kernel
theorem dX1_goToNextOrder_62 : decode cX1_goToNextOrder 62 = .ok (.iload_n 1, 1) := by decide +kernel
theorem dX1_goToNextOrder_63 : decode cX1_goToNextOrder 63 = .ok (.iaload, 1) := by decide +kernel
theorem dX1_goToNextOrder_64 : decode cX1_goToNextOrder 64 = .ok (.if_icmp .ge 9, 3) := by decide +kernel
theorem dX1_goToNextOrder_67 : decode cX1_goToNextOrder 67 = .ok (.iinc 2 (-1), 3) := by decide +kernel
theorem dX1_goToNextOrder_70 : decode cX1_goToNextOrder 70 = .ok (.goto (-23), 3) := by decide +kernel
theorem dX1_goToNextOrder_73 : decode cX1_goToNextOrder 73 = .ok (.aload_n 0, 1) := by decide +kernel
theorem dX1_goToNextOrder_74 : decode cX1_goToNextOrder 74 = .ok (.iload_n 1, 1) := by decide +kernel
theorem dX1_goToNextOrder_75 : decode cX1_goToNextOrder 75 = .ok (.iload_n 2, 1) := by decide +kernel
theorem dX1_goToNextOrder_76 : decode cX1_goToNextOrder 76 = .ok (.invokevirtual 61, 3) := by decide +kernel
theorem dX1_goToNextOrder_79 : decode cX1_goToNextOrder 79 = .ok (.iload_n 1, 1) := by decide +kernel
theorem dX1_goToNextOrder_80 : decode cX1_goToNextOrder 80 = .ok (.iconst 1, 1) := by decide +kernel
theorem dX1_goToNextOrder_81 : decode cX1_goToNextOrder 81 = .ok (.iadd, 1) := by decide +kernel
theorem dX1_goToNextOrder_82 : decode cX1_goToNextOrder 82 = .ok (.istore_n 3, 1) := by decide +kernel
theorem dX1_goToNextOrder_83 : decode cX1_goToNextOrder 83 = .ok (.aload_n 0, 1) := by decide +kernel
theorem dX1_goToNextOrder_84 : decode cX1_goToNextOrder 84 = .ok (.getfield 46, 3) := by decide +kernel
theorem dX1_goToNextOrder_87 : decode cX1_goToNextOrder 87 = .ok (.iconst 1, 1) := by decide +kernel
theorem dX1_goToNextOrder_88 : decode cX1_goToNextOrder 88 = .ok (.isub, 1) := by decide +kernel
theorem dX1_goToNextOrder_89 : decode cX1_goToNextOrder 89 = .ok (.istore 4, 2) := by decide +kernel
theorem dX1_goToNextOrder_91 : decode cX1_goToNextOrder 91 = .ok (.iload_n 3, 1) := by decide +kernel
theorem dX1_goToNextOrder_92 : decode cX1_goToNextOrder 92 = .ok (.iload 4, 2) := by decide +kernel
theorem dX1_goToNextOrder_94 : decode cX1_goToNextOrder 94 = .ok (.if_icmp .ge 19, 3) := by decide +kernel
theorem dX1_goToNextOrder_97 : decode cX1_goToNextOrder 97 = .ok (.aload_n 0, 1) := by decide +kernel
theorem dX1_goToNextOrder_98 : decode cX1_goToNextOrder 98 = .ok (.iload_n 3, 1) := by decide +kernel
theorem dX1_goToNextOrder_99 : decode cX1_goToNextOrder 99 = .ok (.iload 4, 2) := by decide +kernel
theorem dX1_goToNextOrder_101 : decode cX1_goToNextOrder 101 = .ok (.invokevirtual 61, 3) := by decide +kernel
theorem dX1_goToNextOrder_104 : decode cX1_goToNextOrder 104 = .ok (.iinc 3 1, 3) := by decide +kernel
theorem dX1_goToNextOrder_107 : decode cX1_goToNextOrder 107 = .ok (.iinc 4 (-1), 3) := by decide +kernel
theorem dX1_goToNextOrder_110 : decode cX1_goToNextOrder 110 = .ok (.goto (-19), 3) := by decide +kernel
theorem dX1_goToNextOrder_113 : decode cX1_goToNextOrder 113 = .ok (.iconst 1, 1) := by decide +kernel
theorem dX1_goToNextOrder_114 : decode cX1_goToNextOrder 114 = .ok (.ireturn, 1) := by decide +kernel
theorem dX1_swapInOrder_0 : decode cX1_swapInOrder 0 = .ok (.aload_n 0, 1) := by decide +kernel
theorem dX1_swapInOrder_1 : decode cX1_swapInOrder 1 = .ok (.getfield 27, 3) := by decide +kernel
theorem dX1_swapInOrder_4 : decode cX1_swapInOrder 4 = .ok (.iload_n 1, 1) := by decide +kernel
theorem dX1_swapInOrder_5 : decode cX1_swapInOrder 5 = .ok (.iaload, 1) := by decide +kernel
theorem dX1_swapInOrder_6 : decode cX1_swapInOrder 6 = .ok (.istore_n 3, 1) := by decide +kernel
theorem dX1_swapInOrder_7 : decode cX1_swapInOrder 7 = .ok (.aload_n 0, 1) := by decide +kernel
theorem dX1_swapInOrder_8 : decode cX1_swapInOrder 8 = .ok (.getfield 27, 3) := by decide +kernel
theorem dX1_swapInOrder_11 : decode cX1_swapInOrder 11 = .ok (.iload_n 1, 1) := by decide +kernel
theorem dX1_swapInOrder_12 : decode cX1_swapInOrder 12 = .ok (.aload_n 0, 1) := by decide +kernel
theorem dX1_swapInOrder_13 : decode cX1_swapInOrder 13 = .ok (.getfield 27, 3) := by decide +kernel
theorem dX1_swapInOrder_16 : decode cX1_swapInOrder 16 = .ok (.iload_n 2, 1) := by decide +kernel
theorem dX1_swapInOrder_17 : decode cX1_swapInOrder 17 = .ok (.iaload, 1) := by decide +kernel
theorem dX1_swapInOrder_18 : decode cX1_swapInOrder 18 = .ok (.iastore, 1) := by decide +kernel
theorem dX1_swapInOrder_19 : decode cX1_swapInOrder 19 = .ok (.aload_n 0, 1) := by decide +kernel
theorem dX1_swapInOrder_20 : decode cX1_swapInOrder 20 = .ok (.getfield 27, 3) := by decide +kernel
theorem dX1_swapInOrder_23 : decode cX1_swapInOrder 23 = .ok (.iload_n 2, 1) := by decide +kernel
theorem dX1_swapInOrder_24 : decode cX1_swapInOrder 24 = .ok (.iload_n 3, 1) := by decide +kernel
theorem dX1_swapInOrder_25 : decode cX1_swapInOrder 25 = .ok (.iastore, 1) := by decide +kernel
theorem dX1_swapInOrder_26 : decode cX1_swapInOrder 26 = .ok (.return_, 1) := by decide +kernel
theorem dX2_init_0 : decode cX2_init 0 = .ok (.aload_n 0, 1) := by decide +kernel
theorem dX2_init_1 : decode cX2_init 1 = .ok (.invokespecial 3, 3) := by decide +kernel
theorem dX2_init_4 : decode cX2_init 4 = .ok (.aload_n 0, 1) := by decide +kernel
theorem dX2_init_5 : decode cX2_init 5 = .ok (.new 9, 3) := by decide +kernel
theorem dX2_init_8 : decode cX2_init 8 = .ok (.dup, 1) := by decide +kernel
theorem dX2_init_9 : decode cX2_init 9 = .ok (.invokespecial 11, 3) := by decide +kernel
theorem dX2_init_12 : decode cX2_init 12 = .ok (.putfield 12, 3) := by decide +kernel
theorem dX2_init_15 : decode cX2_init 15 = .ok (.aload_n 0, 1) := by decide +kernel
theorem dX2_init_16 : decode cX2_init 16 = .ok (.bipush 16, 2) := by decide +kernel
theorem dX2_init_18 : decode cX2_init 18 = .ok (.newarray .int, 2) := by decide +kernel
theorem dX2_init_20 : decode cX2_init 20 = .ok (.putfield 18, 3) := by decide +kernel
theorem dX2_init_23 : decode cX2_init 23 = .ok (.return_, 1) := by decide +kernel
theorem dX2_add_0 : decode cX2_add 0 = .ok (.aload_n 0, 1) := by decide +kernel
theorem dX2_add_1 : decode cX2_add 1 = .ok (.getfield 22, 3) := by decide +kernel
theorem dX2_add_4 : decode cX2_add 4 = .ok (.bipush 16, 2) := by decide +kernel
theorem dX2_add_6 : decode cX2_add 6 = .ok (.if_icmp .ge 23, 3) := by decide +kernel
theorem dX2_add_9 : decode cX2_add 9 = .ok (.aload_n 0, 1) := by decide +kernel
theorem dX2_add_10 : decode cX2_add 10 = .ok (.getfield 18, 3) := by decide +kernel
theorem dX2_add_13 : decode cX2_add 13 = .ok (.aload_n 0, 1) := by decide +kernel
theorem dX2_add_14 : decode cX2_add 14 = .ok (.getfield 22, 3) := by decide +kernel
theorem dX2_add_17 : decode cX2_add 17 = .ok (.iload_n 1, 1) := by decide +kernel
theorem dX2_add_18 : decode cX2_add 18 = .ok (.iastore, 1) := by decide +kernel
theorem dX2_add_19 : decode cX2_add 19 = .ok (.aload_n 0, 1) := by decide +kernel
theorem dX2_add_20 : decode cX2_add 20 = .ok (.dup, 1) := by decide +kernel
theorem dX2_add_21 : decode cX2_add 21 = .ok (.getfield 22, 3) := by decide +kernel
theorem dX2_add_24 : decode cX2_add 24 = .ok (.iconst 1, 1) := by decide +kernel
theorem dX2_add_25 : decode cX2_add 25 = .ok (.iadd, 1) := by decide +kernel
theorem dX2_add_26 : decode cX2_add 26 = .ok (.putfield 22, 3) := by decide +kernel
theorem dX2_add_29 : decode cX2_add 29 = .ok (.return_, 1) := by decide +kernel
theorem dX2_lookAt_0 : decode cX2_lookAt 0 = .ok (.aload_n 0, 1) := by decide +kernel
theorem dX2_lookAt_1 : decode cX2_lookAt 1 = .ok (.bipush (-9), 2) := by decide +kernel
theorem dX2_lookAt_3 : decode cX2_lookAt 3 = .ok (.putfield 26, 3) := by decide +kernel
theorem dX2_lookAt_6 : decode cX2_lookAt 6 = .ok (.aload_n 0, 1) := by decide +kernel
theorem dX2_lookAt_7 : decode cX2_lookAt 7 = .ok (.bipush (-9), 2) := by decide +kernel
theorem dX2_lookAt_9 : decode cX2_lookAt 9 = .ok (.putfield 29, 3) := by decide +kernel
theorem dX2_lookAt_12 : decode cX2_lookAt 12 = .ok (.aload_n 0, 1) := by decide +kernel
theorem dX2_lookAt_13 : decode cX2_lookAt 13 = .ok (.iconst 0, 1) := by decide +kernel
theorem dX2_lookAt_14 : decode cX2_lookAt 14 = .ok (.putfield 32, 3) := by decide +kernel
theorem dX2_lookAt_17 : decode cX2_lookAt 17 = .ok (.aload_n 0, 1) := by decide +kernel
theorem dX2_lookAt_18 : decode cX2_lookAt 18 = .ok (.getfield 12, 3) := by decide +kernel
theorem dX2_lookAt_21 : decode cX2_lookAt 21 = .ok (.aload_n 1, 1) := by decide +kernel
theorem dX2_lookAt_22 : decode cX2_lookAt 22 = .ok (.invokevirtual 35, 3) := by decide +kernel
theorem dX2_lookAt_25 : decode cX2_lookAt 25 = .ok (.iconst 0, 1) := by decide +kernel
theorem dX2_lookAt_26 : decode cX2_lookAt 26 = .ok (.istore_n 2, 1) := by decide +kernel
theorem dX2_lookAt_27 : decode cX2_lookAt 27 = .ok (.iconst 0, 1) := by decide +kernel
theorem dX2_lookAt_28 : decode cX2_lookAt 28 = .ok (.istore_n 3, 1) := by decide +kernel
theorem dX2_lookAt_29 : decode cX2_lookAt 29 = .ok (.iload_n 3, 1) := by decide +kernel
theorem dX2_lookAt_30 : decode cX2_lookAt 30 = .ok (.aload_n 0, 1) := by decide +kernel
theorem dX2_lookAt_31 : decode cX2_lookAt 31 = .ok (.getfield 22, 3) := by decide +kernel
theorem dX2_lookAt_34 : decode cX2_lookAt 34 = .ok (.if_icmp .ge 75, 3) := by decide +kernel
theorem dX2_lookAt_37 : decode cX2_lookAt 37 = .ok (.iload_n 3, 1) := by decide +kernel
theorem dX2_lookAt_38 : decode cX2_lookAt 38 = .ok (.bipush 16, 2) := by decide +kernel
theorem dX2_lookAt_40 : decode cX2_lookAt 40 = .ok (.if_icmp .ge 69, 3) := by decide +kernel
theorem dX2_lookAt_43 : decode cX2_lookAt 43 = .ok (.aload_n 0, 1) := by decide +kernel
theorem dX2_lookAt_44 : decode cX2_lookAt 44 = .ok (.getfield 26, 3) := by decide +kernel
theorem dX2_lookAt_47 : decode cX2_lookAt 47 = .ok (.bipush (-9), 2) := by decide +kernel
theorem dX2_lookAt_49 : decode cX2_lookAt 49 = .ok (.if_icmp .ne 60, 3) := by decide +kernel
theorem dX2_lookAt_52 : decode cX2_lookAt 52 = .ok (.iload_n 2, 1) := by decide +kernel
theorem dX2_lookAt_53 : decode cX2_lookAt 53 = .ok (.aload_n 0, 1) := by decide +kernel
theorem dX2_lookAt_54 : decode cX2_lookAt 54 = .ok (.aload_n 1, 1) := by decide +kernel
theorem dX2_lookAt_55 : decode cX2_lookAt 55 = .ok (.aload_n 0, 1) := by decide +kernel
theorem dX2_lookAt_56 : decode cX2_lookAt 56 = .ok (.getfield 18, 3) := by decide +kernel
theorem dX2_lookAt_59 : decode cX2_lookAt 59 = .ok (.iload_n 3, 1) := by decide +kernel
theorem dX2_lookAt_60 : decode cX2_lookAt 60 = .ok (.iaload, 1) := by decide +kernel
theorem dX2_lookAt_61 : decode cX2_lookAt 61 = .ok (.invokevirtual 39, 3) := by decide +kernel
theorem dX2_lookAt_64 : decode cX2_lookAt 64 = .ok (.invokestatic 43, 3) := by decide +kernel
theorem dX2_lookAt_67 : decode cX2_lookAt 67 = .ok (.istore_n 2, 1) := by decide +kernel
theorem dX2_lookAt_68 : decode cX2_lookAt 68 = .ok (.iload_n 2, 1) := by decide +kernel
theorem dX2_lookAt_69 : decode cX2_lookAt 69 = .ok (.sipush 9999, 3) := by decide +kernel
theorem dX2_lookAt_72 : decode cX2_lookAt 72 = .ok (.if_icmp .le 11, 3) := by decide +kernel
theorem dX2_lookAt_75 : decode cX2_lookAt 75 = .ok (.aload_n 0, 1) := by decide +kernel
theorem dX2_lookAt_76 : decode cX2_lookAt 76 = .ok (.iload_n 3, 1) := by decide +kernel
theorem dX2_lookAt_77 : decode cX2_lookAt 77 = .ok (.putfield 26, 3) := by decide +kernel
theorem dX2_lookAt_80 : decode cX2_lookAt 80 = .ok (.goto 23, 3) := by decide +kernel
theorem dX2_lookAt_83 : decode cX2_lookAt 83 = .ok (.aload_n 0, 1) := by decide +kernel
theorem dX2_lookAt_84 : decode cX2_lookAt 84 = .ok (.aload_n 1, 1) := by decide +kernel
theorem dX2_lookAt_85 : decode cX2_lookAt 85 = .ok (.aload_n 0, 1) := by decide +kernel
theorem dX2_lookAt_86 : decode cX2_lookAt 86 = .ok (.getfield 18, 3) := by decide +kernel
theorem dX2_lookAt_89 : decode cX2_lookAt 89 = .ok (.iload_n 3, 1) := by decide +kernel
theorem dX2_lookAt_90 : decode cX2_lookAt 90 = .ok (.iaload, 1) := by decide +kernel
theorem dX2_lookAt_91 : decode cX2_lookAt 91 = .ok (.iload_n 2, 1) := by decide +kernel
theorem dX2_lookAt_92 : decode cX2_lookAt 92 = .ok (.invokevirtual 49, 3) := by decide +kernel
theorem dX2_lookAt_95 : decode cX2_lookAt 95 = .ok (.aload_n 0, 1) := by decide +kernel
theorem dX2_lookAt_96 : decode cX2_lookAt 96 = .ok (.iload_n 2, 1) := by decide +kernel
theorem dX2_lookAt_97 : decode cX2_lookAt 97 = .ok (.putfield 29, 3) := by decide +kernel
theorem dX2_lookAt_100 : decode cX2_lookAt 100 = .ok (.iinc 2 1, 3) := by decide +kernel
theorem dX2_lookAt_103 : decode cX2_lookAt 103 = .ok (.iinc 3 1, 3) := by decide +kernel
theorem dX2_lookAt_106 : decode cX2_lookAt 106 = .ok (.goto (-77), 3) := by decide +kernel
theorem dX2_lookAt_109 : decode cX2_lookAt 109 = .ok (.aload_n 0, 1) := by decide +kernel
theorem dX2_lookAt_110 : decode cX2_lookAt 110 = .ok (.iconst 0, 1) := by decide +kernel
theorem dX2_lookAt_111 : decode cX2_lookAt 111 = .ok (.putfield 22, 3) := by decide +kernel
theorem dX2_lookAt_114 : decode cX2_lookAt 114 = .ok (.return_, 1) := by decide +kernel
theorem dX2_canFrom_0 : decode cX2_canFrom 0 = .ok (.iload_n 2, 1) := by decide +kernel
theorem dX2_canFrom_1 : decode cX2_canFrom 1 = .ok (.bipush 9, 2) := by decide +kernel
theorem dX2_canFrom_3 : decode cX2_canFrom 3 = .ok (.if_icmp .ne 11, 3) := by decide +kernel
theorem dX2_canFrom_6 : decode cX2_canFrom 6 = .ok (.aload_n 0, 1) := by decide +kernel
theorem dX2_canFrom_7 : decode cX2_canFrom 7 = .ok (.getfield 12, 3) := by decide +kernel
theorem dX2_canFrom_10 : decode cX2_canFrom 10 = .ok (.getfield 53, 3) := by decide +kernel
theorem dX2_canFrom_13 : decode cX2_canFrom 13 = .ok (.ireturn, 1) := by decide +kernel
theorem dX2_canFrom_14 : decode cX2_canFrom 14 = .ok (.aload_n 1, 1) := by decide +kernel
theorem dX2_canFrom_15 : decode cX2_canFrom 15 = .ok (.iload_n 2, 1) := by decide +kernel
theorem dX2_canFrom_16 : decode cX2_canFrom 16 = .ok (.invokevirtual 56, 3) := by decide +kernel
theorem dX2_canFrom_19 : decode cX2_canFrom 19 = .ok (.ifCond .eq 15, 3) := by decide +kernel
theorem dX2_canFrom_22 : decode cX2_canFrom 22 = .ok (.aload_n 0, 1) := by decide +kernel
theorem dX2_canFrom_23 : decode cX2_canFrom 23 = .ok (.getfield 32, 3) := by decide +kernel
theorem dX2_canFrom_26 : decode cX2_canFrom 26 = .ok (.iload_n 2, 1) := by decide +kernel
theorem dX2_canFrom_27 : decode cX2_canFrom 27 = .ok (.ishr, 1) := by decide +kernel
theorem dX2_canFrom_28 : decode cX2_canFrom 28 = .ok (.iconst 1, 1) := by decide +kernel
theorem dX2_canFrom_29 : decode cX2_canFrom 29 = .ok (.iand, 1) := by decide +kernel
theorem dX2_canFrom_30 : decode cX2_canFrom 30 = .ok (.iconst 1, 1) := by decide +kernel
theorem dX2_canFrom_31 : decode cX2_canFrom 31 = .ok (.if_icmp .ne 6, 3) := by decide +kernel
theorem dX2_canFrom_34 : decode cX2_canFrom 34 = .ok (.ldc 62, 2) := by decide +kernel
theorem dX2_canFrom_36 : decode cX2_canFrom 36 = .ok (.ireturn, 1) := by decide +kernel
theorem dX2_canFrom_37 : decode cX2_canFrom 37 = .ok (.aload_n 1, 1) := by decide +kernel
theorem dX2_canFrom_38 : decode cX2_canFrom 38 = .ok (.aload_n 1, 1) := by decide +kernel
theorem dX2_canFrom_39 : decode cX2_canFrom 39 = .ok (.getfield 63, 3) := by decide +kernel
theorem dX2_canFrom_42 : decode cX2_canFrom 42 = .ok (.iload_n 2, 1) := by decide +kernel
theorem dX2_canFrom_43 : decode cX2_canFrom 43 = .ok (.iaload, 1) := by decide +kernel
theorem dX2_canFrom_44 : decode cX2_canFrom 44 = .ok (.invokevirtual 66, 3) := by decide +kernel
theorem dX2_canFrom_47 : decode cX2_canFrom 47 = .ok (.istore_n 3, 1) := by decide +kernel
theorem dX2_canFrom_48 : decode cX2_canFrom 48 = .ok (.iload_n 3, 1) := by decide +kernel
theorem dX2_canFrom_49 : decode cX2_canFrom 49 = .ok (.iconst 3, 1) := by decide +kernel
theorem dX2_canFrom_50 : decode cX2_canFrom 50 = .ok (.if_icmp .ne 8, 3) := by decide +kernel
theorem dX2_canFrom_53 : decode cX2_canFrom 53 = .ok (.ldc 62, 2) := by decide +kernel
theorem dX2_canFrom_55 : decode cX2_canFrom 55 = .ok (.goto 21, 3) := by decide +kernel
theorem dX2_canFrom_58 : decode cX2_canFrom 58 = .ok (.aload_n 1, 1) := by decide +kernel
theorem dX2_canFrom_59 : decode cX2_canFrom 59 = .ok (.getfield 70, 3) := by decide +kernel
theorem dX2_canFrom_62 : decode cX2_canFrom 62 = .ok (.iload_n 2, 1) := by decide +kernel
theorem dX2_canFrom_63 : decode cX2_canFrom 63 = .ok (.iaload, 1) := by decide +kernel
theorem dX2_canFrom_64 : decode cX2_canFrom 64 = .ok (.aload_n 0, 1) := by decide +kernel
theorem dX2_canFrom_65 : decode cX2_canFrom 65 = .ok (.getfield 12, 3) := by decide +kernel
theorem dX2_canFrom_68 : decode cX2_canFrom 68 = .ok (.getfield 73, 3) := by decide +kernel
theorem dX2_canFrom_71 : decode cX2_canFrom 71 = .ok (.iload_n 3, 1) := by decide +kernel
theorem dX2_canFrom_72 : decode cX2_canFrom 72 = .ok (.iaload, 1) := by decide +kernel
theorem dX2_canFrom_73 : decode cX2_canFrom 73 = .ok (.invokestatic 43, 3) := by decide +kernel
theorem dX2_canFrom_76 : decode cX2_canFrom 76 = .ok (.ireturn, 1) := by decide +kernel
theorem dX2_begin_0 : decode cX2_begin 0 = .ok (.iload_n 2, 1) := by decide +kernel
theorem dX2_begin_1 : decode cX2_begin 1 = .ok (.bipush 9, 2) := by decide +kernel
theorem dX2_begin_3 : decode cX2_begin 3 = .ok (.if_icmp .ne 14, 3) := by decide +kernel
theorem dX2_begin_6 : decode cX2_begin 6 = .ok (.aload_n 0, 1) := by decide +kernel
theorem dX2_begin_7 : decode cX2_begin 7 = .ok (.getfield 12, 3) := by decide +kernel
theorem dX2_begin_10 : decode cX2_begin 10 = .ok (.iload_n 3, 1) := by decide +kernel
theorem dX2_begin_11 : decode cX2_begin 11 = .ok (.invokevirtual 76, 3) := by decide +kernel
theorem dX2_begin_14 : decode cX2_begin 14 = .ok (.goto 41, 3) := by decide +kernel
theorem dX2_begin_17 : decode cX2_begin 17 = .ok (.aload_n 1, 1) := by decide +kernel
theorem dX2_begin_18 : decode cX2_begin 18 = .ok (.iload_n 2, 1) := by decide +kernel
theorem dX2_begin_19 : decode cX2_begin 19 = .ok (.invokevirtual 56, 3) := by decide +kernel
theorem dX2_begin_22 : decode cX2_begin 22 = .ok (.ifCond .eq 33, 3) := by decide +kernel
theorem dX2_begin_25 : decode cX2_begin 25 = .ok (.aload_n 0, 1) := by decide +kernel
theorem dX2_begin_26 : decode cX2_begin 26 = .ok (.getfield 12, 3) := by decide +kernel
theorem dX2_begin_29 : decode cX2_begin 29 = .ok (.aload_n 1, 1) := by decide +kernel
theorem dX2_begin_30 : decode cX2_begin 30 = .ok (.aload_n 1, 1) := by decide +kernel
theorem dX2_begin_31 : decode cX2_begin 31 = .ok (.getfield 63, 3) := by decide +kernel
theorem dX2_begin_34 : decode cX2_begin 34 = .ok (.iload_n 2, 1) := by decide +kernel
theorem dX2_begin_35 : decode cX2_begin 35 = .ok (.iaload, 1) := by decide +kernel
theorem dX2_begin_36 : decode cX2_begin 36 = .ok (.invokevirtual 66, 3) := by decide +kernel
theorem dX2_begin_39 : decode cX2_begin 39 = .ok (.iload_n 3, 1) := by decide +kernel
theorem dX2_begin_40 : decode cX2_begin 40 = .ok (.invokevirtual 80, 3) := by decide +kernel
theorem dX2_begin_43 : decode cX2_begin 43 = .ok (.aload_n 0, 1) := by decide +kernel
theorem dX2_begin_44 : decode cX2_begin 44 = .ok (.dup, 1) := by decide +kernel
theorem dX2_begin_45 : decode cX2_begin 45 = .ok (.getfield 32, 3) := by decide +kernel
theorem dX2_begin_48 : decode cX2_begin 48 = .ok (.iconst 1, 1) := by decide +kernel
theorem dX2_begin_49 : decode cX2_begin 49 = .ok (.iload_n 2, 1) := by decide +kernel
theorem dX2_begin_50 : decode cX2_begin 50 = .ok (.ishl, 1) := by decide +kernel
theorem dX2_begin_51 : decode cX2_begin 51 = .ok (.ior, 1) := by decide +kernel
theorem dX2_begin_52 : decode cX2_begin 52 = .ok (.putfield 32, 3) := by decide +kernel
theorem dX2_begin_55 : decode cX2_begin 55 = .ok (.return_, 1) := by decide +kernel
theorem dX3_init_0 : decode cX3_init 0 = .ok (.aload_n 0, 1) := by decide +kernel
theorem dX3_init_1 : decode cX3_init 1 = .ok (.invokespecial 3, 3) := by decide +kernel
theorem dX3_init_4 : decode cX3_init 4 = .ok (.aload_n 0, 1) := by decide +kernel
theorem dX3_init_5 : decode cX3_init 5 = .ok (.bipush 48, 2) := by decide +kernel
theorem dX3_init_7 : decode cX3_init 7 = .ok (.newarray .int, 2) := by decide +kernel
theorem dX3_init_9 : decode cX3_init 9 = .ok (.putfield 9, 3) := by decide +kernel
theorem dX3_init_12 : decode cX3_init 12 = .ok (.return_, 1) := by decide +kernel
theorem dX3_hasRoom_0 : decode cX3_hasRoom 0 = .ok (.iload_n 1, 1) := by decide +kernel
theorem dX3_hasRoom_1 : decode cX3_hasRoom 1 = .ok (.bipush 48, 2) := by decide +kernel
theorem dX3_hasRoom_3 : decode cX3_hasRoom 3 = .ok (.aload_n 0, 1) := by decide +kernel
theorem dX3_hasRoom_4 : decode cX3_hasRoom 4 = .ok (.getfield 15, 3) := by decide +kernel
theorem dX3_hasRoom_7 : decode cX3_hasRoom 7 = .ok (.isub, 1) := by decide +kernel
theorem dX3_hasRoom_8 : decode cX3_hasRoom 8 = .ok (.if_icmp .gt 7, 3) := by decide +kernel
theorem dX3_hasRoom_11 : decode cX3_hasRoom 11 = .ok (.iconst 1, 1) := by decide +kernel
theorem dX3_hasRoom_12 : decode cX3_hasRoom 12 = .ok (.goto 4, 3) := by decide +kernel
theorem dX3_hasRoom_15 : decode cX3_hasRoom 15 = .ok (.iconst 0, 1) := by decide +kernel
theorem dX3_hasRoom_16 : decode cX3_hasRoom 16 = .ok (.ireturn, 1) := by decide +kernel
theorem dX3_put_0 : decode cX3_put 0 = .ok (.iconst 0, 1) := by decide +kernel
theorem dX3_put_1 : decode cX3_put 1 = .ok (.istore 4, 2) := by decide +kernel
theorem dX3_put_3 : decode cX3_put 3 = .ok (.iload 4, 2) := by decide +kernel
theorem dX3_put_5 : decode cX3_put 5 = .ok (.iload_n 1, 1) := by decide +kernel
theorem dX3_put_6 : decode cX3_put 6 = .ok (.if_icmp .ge 49, 3) := by decide +kernel
theorem dX3_put_9 : decode cX3_put 9 = .ok (.aload_n 0, 1) := by decide +kernel
theorem dX3_put_10 : decode cX3_put 10 = .ok (.getfield 15, 3) := by decide +kernel
theorem dX3_put_13 : decode cX3_put 13 = .ok (.bipush 48, 2) := by decide +kernel
theorem dX3_put_15 : decode cX3_put 15 = .ok (.if_icmp .ge 40, 3) := by decide +kernel
theorem dX3_put_18 : decode cX3_put 18 = .ok (.aload_n 0, 1) := by decide +kernel
theorem dX3_put_19 : decode cX3_put 19 = .ok (.getfield 9, 3) := by decide +kernel
theorem dX3_put_22 : decode cX3_put 22 = .ok (.aload_n 0, 1) := by decide +kernel
theorem dX3_put_23 : decode cX3_put 23 = .ok (.getfield 15, 3) := by decide +kernel
theorem dX3_put_26 : decode cX3_put 26 = .ok (.lload_n 2, 1) := by decide +kernel
theorem dX3_put_27 : decode cX3_put 27 = .ok (.bipush 8, 2) := by decide +kernel
theorem dX3_put_29 : decode cX3_put 29 = .ok (.iload 4, 2) := by decide +kernel
theorem dX3_put_31 : decode cX3_put 31 = .ok (.imul, 1) := by decide +kernel
theorem dX3_put_32 : decode cX3_put 32 = .ok (.lushr, 1) := by decide +kernel
theorem dX3_put_33 : decode cX3_put 33 = .ok (.l2i, 1) := by decide +kernel
theorem dX3_put_34 : decode cX3_put 34 = .ok (.sipush 255, 3) := by decide +kernel
theorem dX3_put_37 : decode cX3_put 37 = .ok (.iand, 1) := by decide +kernel
theorem dX3_put_38 : decode cX3_put 38 = .ok (.iastore, 1) := by decide +kernel
theorem dX3_put_39 : decode cX3_put 39 = .ok (.aload_n 0, 1) := by decide +kernel
theorem dX3_put_40 : decode cX3_put 40 = .ok (.dup, 1) := by decide +kernel
theorem dX3_put_41 : decode cX3_put 41 = .ok (.getfield 15, 3) := by decide +kernel
theorem dX3_put_44 : decode cX3_put 44 = .ok (.iconst 1, 1) := by decide +kernel
theorem dX3_put_45 : decode cX3_put 45 = .ok (.iadd, 1) := by decide +kernel
theorem dX3_put_46 : decode cX3_put 46 = .ok (.putfield 15, 3) := by decide +kernel
theorem dX3_put_49 : decode cX3_put 49 = .ok (.iinc 4 1, 3) := by decide +kernel
theorem dX3_put_52 : decode cX3_put 52 = .ok (.goto (-49), 3) := by decide +kernel
theorem dX3_put_55 : decode cX3_put 55 = .ok (.return_, 1) := by decide +kernel
theorem dX3_readInto_0 : decode cX3_readInto 0 = .ok (.aload_n 0, 1) := by decide +kernel
theorem dX3_readInto_1 : decode cX3_readInto 1 = .ok (.invokevirtual 19, 3) := by decide +kernel
theorem dX3_readInto_4 : decode cX3_readInto 4 = .ok (.istore_n 2, 1) := by decide +kernel
theorem dX3_readInto_5 : decode cX3_readInto 5 = .ok (.iload_n 2, 1) := by decide +kernel
theorem dX3_readInto_6 : decode cX3_readInto 6 = .ok (.ifCond .lt 9, 3) := by decide +kernel
theorem dX3_readInto_9 : decode cX3_readInto 9 = .ok (.aload_n 0, 1) := by decide +kernel
theorem dX3_readInto_10 : decode cX3_readInto 10 = .ok (.aload_n 1, 1) := by decide +kernel
theorem dX3_readInto_11 : decode cX3_readInto 11 = .ok (.invokevirtual 23, 3) := by decide +kernel
theorem dX3_readInto_14 : decode cX3_readInto 14 = .ok (.istore_n 2, 1) := by decide +kernel
theorem dX3_readInto_15 : decode cX3_readInto 15 = .ok (.aload_n 0, 1) := by decide +kernel
theorem dX3_readInto_16 : decode cX3_readInto 16 = .ok (.iconst 0, 1) := by decide +kernel
theorem dX3_readInto_17 : decode cX3_readInto 17 = .ok (.putfield 15, 3) := by decide +kernel
theorem dX3_readInto_20 : decode cX3_readInto 20 = .ok (.iload_n 2, 1) := by decide +kernel
theorem dX3_readInto_21 : decode cX3_readInto 21 = .ok (.ireturn, 1) := by decide +kernel
theorem dX3_formFault_0 : decode cX3_formFault 0 = .ok (.aload_n 0, 1) := by decide +kernel
theorem dX3_formFault_1 : decode cX3_formFault 1 = .ok (.iconst 0, 1) := by decide +kernel
theorem dX3_formFault_2 : decode cX3_formFault 2 = .ok (.putfield 27, 3) := by decide +kernel
theorem dX3_formFault_5 : decode cX3_formFault 5 = .ok (.aload_n 0, 1) := by decide +kernel
theorem dX3_formFault_6 : decode cX3_formFault 6 = .ok (.iconst 0, 1) := by decide +kernel
theorem dX3_formFault_7 : decode cX3_formFault 7 = .ok (.putfield 30, 3) := by decide +kernel
theorem dX3_formFault_10 : decode cX3_formFault 10 = .ok (.aload_n 0, 1) := by decide +kernel
theorem dX3_formFault_11 : decode cX3_formFault 11 = .ok (.invokevirtual 34, 3) := by decide +kernel
theorem dX3_formFault_14 : decode cX3_formFault 14 = .ok (.iconst 1, 1) := by decide +kernel
theorem dX3_formFault_15 : decode cX3_formFault 15 = .ok (.istore_n 1, 1) := by decide +kernel
theorem dX3_formFault_16 : decode cX3_formFault 16 = .ok (.iload_n 1, 1) := by decide +kernel
theorem dX3_formFault_17 : decode cX3_formFault 17 = .ok (.bipush 48, 2) := by decide +kernel
theorem dX3_formFault_19 : decode cX3_formFault 19 = .ok (.if_icmp .ge 31, 3) := by decide +kernel
theorem dX3_formFault_22 : decode cX3_formFault 22 = .ok (.aload_n 0, 1) := by decide +kernel
theorem dX3_formFault_23 : decode cX3_formFault 23 = .ok (.getfield 30, 3) := by decide +kernel
theorem dX3_formFault_26 : decode cX3_formFault 26 = .ok (.ifCond .ne 24, 3) := by decide +kernel
theorem dX3_formFault_29 : decode cX3_formFault 29 = .ok (.aload_n 0, 1) := by decide +kernel
theorem dX3_formFault_30 : decode cX3_formFault 30 = .ok (.getfield 27, 3) := by decide +kernel
theorem dX3_formFault_33 : decode cX3_formFault 33 = .ok (.aload_n 0, 1) := by decide +kernel
theorem dX3_formFault_34 : decode cX3_formFault 34 = .ok (.getfield 15, 3) := by decide +kernel
theorem dX3_formFault_37 : decode cX3_formFault 37 = .ok (.if_icmp .ge 13, 3) := by decide +kernel
theorem dX3_formFault_40 : decode cX3_formFault 40 = .ok (.aload_n 0, 1) := by decide +kernel
theorem dX3_formFault_41 : decode cX3_formFault 41 = .ok (.invokevirtual 34, 3) := by decide +kernel
theorem dX3_formFault_44 : decode cX3_formFault 44 = .ok (.iinc 1 1, 3) := by decide +kernel
theorem dX3_formFault_47 : decode cX3_formFault 47 = .ok (.goto (-31), 3) := by decide +kernel
theorem dX3_formFault_50 : decode cX3_formFault 50 = .ok (.aload_n 0, 1) := by decide +kernel
theorem dX3_formFault_51 : decode cX3_formFault 51 = .ok (.getfield 30, 3) := by decide +kernel
theorem dX3_formFault_54 : decode cX3_formFault 54 = .ok (.ifCond .eq 14, 3) := by decide +kernel
theorem dX3_formFault_57 : decode cX3_formFault 57 = .ok (.sipush (-1000), 3) := by decide +kernel
theorem dX3_formFault_60 : decode cX3_formFault 60 = .ok (.aload_n 0, 1) := by decide +kernel
theorem dX3_formFault_61 : decode cX3_formFault 61 = .ok (.getfield 27, 3) := by decide +kernel
theorem dX3_formFault_64 : decode cX3_formFault 64 = .ok (.isub, 1) := by decide +kernel
theorem dX3_formFault_65 : decode cX3_formFault 65 = .ok (.goto 4, 3) := by decide +kernel
theorem dX3_formFault_68 : decode cX3_formFault 68 = .ok (.iconst 0, 1) := by decide +kernel
theorem dX3_formFault_69 : decode cX3_formFault 69 = .ok (.ireturn, 1) := by decide +kernel
theorem dX3_bring_0 : decode cX3_bring 0 = .ok (.aload_n 0, 1) := by decide +kernel
theorem dX3_bring_1 : decode cX3_bring 1 = .ok (.iconst 0, 1) := by decide +kernel
theorem dX3_bring_2 : decode cX3_bring 2 = .ok (.putfield 27, 3) := by decide +kernel
theorem dX3_bring_5 : decode cX3_bring 5 = .ok (.iconst 0, 1) := by decide +kernel
theorem dX3_bring_6 : decode cX3_bring 6 = .ok (.istore_n 2, 1) := by decide +kernel
theorem dX3_bring_7 : decode cX3_bring 7 = .ok (.iconst 0, 1) := by decide +kernel
theorem dX3_bring_8 : decode cX3_bring 8 = .ok (.istore_n 3, 1) := by decide +kernel
theorem dX3_bring_9 : decode cX3_bring 9 = .ok (.iload_n 3, 1) := by decide +kernel
theorem dX3_bring_10 : decode cX3_bring 10 = .ok (.bipush 48, 2) := by decide +kernel
theorem dX3_bring_12 : decode cX3_bring 12 = .ok (.if_icmp .ge 48, 3) := by decide +kernel
theorem dX3_bring_15 : decode cX3_bring 15 = .ok (.aload_n 0, 1) := by decide +kernel
theorem dX3_bring_16 : decode cX3_bring 16 = .ok (.getfield 27, 3) := by decide +kernel
theorem dX3_bring_19 : decode cX3_bring 19 = .ok (.aload_n 0, 1) := by decide +kernel
theorem dX3_bring_20 : decode cX3_bring 20 = .ok (.getfield 15, 3) := by decide +kernel
theorem dX3_bring_23 : decode cX3_bring 23 = .ok (.if_icmp .ge 37, 3) := by decide +kernel
theorem dX3_bring_26 : decode cX3_bring 26 = .ok (.aload_n 0, 1) := by decide +kernel
theorem dX3_bring_27 : decode cX3_bring 27 = .ok (.getfield 27, 3) := by decide +kernel
theorem dX3_bring_30 : decode cX3_bring 30 = .ok (.istore 4, 2) := by decide +kernel
theorem dX3_bring_32 : decode cX3_bring 32 = .ok (.aload_n 0, 1) := by decide +kernel
theorem dX3_bring_33 : decode cX3_bring 33 = .ok (.invokevirtual 34, 3) := by decide +kernel
theorem dX3_bring_36 : decode cX3_bring 36 = .ok (.aload_n 0, 1) := by decide +kernel
theorem dX3_bring_37 : decode cX3_bring 37 = .ok (.aload_n 1, 1) := by decide +kernel
theorem dX3_bring_38 : decode cX3_bring 38 = .ok (.invokevirtual 37, 3) := by decide +kernel
theorem dX3_bring_41 : decode cX3_bring 41 = .ok (.ifCond .ne 10, 3) := by decide +kernel
theorem dX3_bring_44 : decode cX3_bring 44 = .ok (.sipush (-2000), 3) := by decide +kernel
theorem dX3_bring_47 : decode cX3_bring 47 = .ok (.iload 4, 2) := by decide +kernel
theorem dX3_bring_49 : decode cX3_bring 49 = .ok (.isub, 1) := by decide +kernel
theorem dX3_bring_50 : decode cX3_bring 50 = .ok (.ireturn, 1) := by decide +kernel
theorem dX3_bring_51 : decode cX3_bring 51 = .ok (.iinc 2 1, 3) := by decide +kernel
theorem dX3_bring_54 : decode cX3_bring 54 = .ok (.iinc 3 1, 3) := by decide +kernel
theorem dX3_bring_57 : decode cX3_bring 57 = .ok (.goto (-48), 3) := by decide +kernel
theorem dX3_bring_60 : decode cX3_bring 60 = .ok (.iload_n 2, 1) := by decide +kernel
theorem dX3_bring_61 : decode cX3_bring 61 = .ok (.ireturn, 1) := by decide +kernel
theorem dX3_bringStatement_0 : decode cX3_bringStatement 0 = .ok (.aload_n 0, 1) := by decide +kernel
theorem dX3_bringStatement_1 : decode cX3_bringStatement 1 = .ok (.getfield 41, 3) := by decide +kernel
theorem dX3_bringStatement_4 : decode cX3_bringStatement 4 = .ok (.lookupswitch 64 #[(112, 28), (116, 51)], 28) := by decide +kernel
theorem dX3_bringStatement_32 : decode cX3_bringStatement 32 = .ok (.aload_n 1, 1) := by decide +kernel
theorem dX3_bringStatement_33 : decode cX3_bringStatement 33 = .ok (.aload_n 0, 1) := by decide +kernel
theorem dX3_bringStatement_34 : decode cX3_bringStatement 34 = .ok (.getfield 44, 3) := by decide +kernel
theorem dX3_bringStatement_37 : decode cX3_bringStatement 37 = .ok (.aload_n 0, 1) := by decide +kernel
theorem dX3_bringStatement_38 : decode cX3_bringStatement 38 = .ok (.getfield 47, 3) := by decide +kernel
theorem dX3_bringStatement_41 : decode cX3_bringStatement 41 = .ok (.bipush 100, 2) := by decide +kernel
theorem dX3_bringStatement_43 : decode cX3_bringStatement 43 = .ok (.if_icmp .ne 7, 3) := by decide +kernel
theorem dX3_bringStatement_46 : decode cX3_bringStatement 46 = .ok (.iconst 1, 1) := by decide +kernel
theorem dX3_bringStatement_47 : decode cX3_bringStatement 47 = .ok (.goto 4, 3) := by decide +kernel
theorem dX3_bringStatement_50 : decode cX3_bringStatement 50 = .ok (.iconst 0, 1) := by decide +kernel
theorem dX3_bringStatement_51 : decode cX3_bringStatement 51 = .ok (.invokevirtual 50, 3) := by decide +kernel
theorem dX3_bringStatement_54 : decode cX3_bringStatement 54 = .ok (.ireturn, 1) := by decide +kernel
theorem dX3_bringStatement_55 : decode cX3_bringStatement 55 = .ok (.aload_n 1, 1) := by decide +kernel
theorem dX3_bringStatement_56 : decode cX3_bringStatement 56 = .ok (.aload_n 0, 1) := by decide +kernel
theorem dX3_bringStatement_57 : decode cX3_bringStatement 57 = .ok (.getfield 44, 3) := by decide +kernel
theorem dX3_bringStatement_60 : decode cX3_bringStatement 60 = .ok (.aload_n 0, 1) := by decide +kernel
theorem dX3_bringStatement_61 : decode cX3_bringStatement 61 = .ok (.getfield 47, 3) := by decide +kernel
theorem dX3_bringStatement_64 : decode cX3_bringStatement 64 = .ok (.invokevirtual 56, 3) := by decide +kernel
theorem dX3_bringStatement_67 : decode cX3_bringStatement 67 = .ok (.ireturn, 1) := by decide +kernel
theorem dX3_bringStatement_68 : decode cX3_bringStatement 68 = .ok (.aload_n 1, 1) := by decide +kernel
theorem dX3_bringStatement_69 : decode cX3_bringStatement 69 = .ok (.aload_n 0, 1) := by decide +kernel
theorem dX3_bringStatement_70 : decode cX3_bringStatement 70 = .ok (.getfield 44, 3) := by decide +kernel
theorem dX3_bringStatement_73 : decode cX3_bringStatement 73 = .ok (.invokevirtual 59, 3) := by decide +kernel
theorem dX3_bringStatement_76 : decode cX3_bringStatement 76 = .ok (.ireturn, 1) := by decide +kernel
theorem dX3_readStatement_0 : decode cX3_readStatement 0 = .ok (.aload_n 0, 1) := by decide +kernel
theorem dX3_readStatement_1 : decode cX3_readStatement 1 = .ok (.aload_n 0, 1) := by decide +kernel
theorem dX3_readStatement_2 : decode cX3_readStatement 2 = .ok (.invokevirtual 63, 3) := by decide +kernel
theorem dX3_readStatement_5 : decode cX3_readStatement 5 = .ok (.putfield 41, 3) := by decide +kernel
theorem dX3_readStatement_8 : decode cX3_readStatement 8 = .ok (.aload_n 0, 1) := by decide +kernel
theorem dX3_readStatement_9 : decode cX3_readStatement 9 = .ok (.getfield 41, 3) := by decide +kernel
theorem dX3_readStatement_12 : decode cX3_readStatement 12 = .ok (.lookupswitch 164 #[(101, 142), (112, 36), (116, 93)], 36) := by decide +kernel
theorem dX3_readStatement_48 : decode cX3_readStatement 48 = .ok (.aload_n 0, 1) := by decide +kernel
theorem dX3_readStatement_49 : decode cX3_readStatement 49 = .ok (.dup, 1) := by decide +kernel
theorem dX3_readStatement_50 : decode cX3_readStatement 50 = .ok (.getfield 27, 3) := by decide +kernel
theorem dX3_readStatement_53 : decode cX3_readStatement 53 = .ok (.iconst 1, 1) := by decide +kernel
theorem dX3_readStatement_54 : decode cX3_readStatement 54 = .ok (.iadd, 1) := by decide +kernel
theorem dX3_readStatement_55 : decode cX3_readStatement 55 = .ok (.putfield 27, 3) := by decide +kernel
theorem dX3_readStatement_58 : decode cX3_readStatement 58 = .ok (.aload_n 0, 1) := by decide +kernel
theorem dX3_readStatement_59 : decode cX3_readStatement 59 = .ok (.aload_n 0, 1) := by decide +kernel
theorem dX3_readStatement_60 : decode cX3_readStatement 60 = .ok (.iconst 1, 1) := by decide +kernel
theorem dX3_readStatement_61 : decode cX3_readStatement 61 = .ok (.invokevirtual 66, 3) := by decide +kernel
theorem dX3_readStatement_64 : decode cX3_readStatement 64 = .ok (.putfield 44, 3) := by decide +kernel
theorem dX3_readStatement_67 : decode cX3_readStatement 67 = .ok (.aload_n 0, 1) := by decide +kernel
theorem dX3_readStatement_68 : decode cX3_readStatement 68 = .ok (.aload_n 0, 1) := by decide +kernel
theorem dX3_readStatement_69 : decode cX3_readStatement 69 = .ok (.invokevirtual 63, 3) := by decide +kernel
theorem dX3_readStatement_72 : decode cX3_readStatement 72 = .ok (.putfield 47, 3) := by decide +kernel
theorem dX3_readStatement_75 : decode cX3_readStatement 75 = .ok (.aload_n 0, 1) := by decide +kernel
theorem dX3_readStatement_76 : decode cX3_readStatement 76 = .ok (.aload_n 0, 1) := by decide +kernel
theorem dX3_readStatement_77 : decode cX3_readStatement 77 = .ok (.getfield 47, 3) := by decide +kernel
theorem dX3_readStatement_80 : decode cX3_readStatement 80 = .ok (.bipush 115, 2) := by decide +kernel
theorem dX3_readStatement_82 : decode cX3_readStatement 82 = .ok (.if_icmp .eq 12, 3) := by decide +kernel
theorem dX3_readStatement_85 : decode cX3_readStatement 85 = .ok (.aload_n 0, 1) := by decide +kernel
theorem dX3_readStatement_86 : decode cX3_readStatement 86 = .ok (.getfield 47, 3) := by decide +kernel
theorem dX3_readStatement_89 : decode cX3_readStatement 89 = .ok (.bipush 100, 2) := by decide +kernel
theorem dX3_readStatement_91 : decode cX3_readStatement 91 = .ok (.if_icmp .ne 7, 3) := by decide +kernel
theorem dX3_readStatement_94 : decode cX3_readStatement 94 = .ok (.iconst 1, 1) := by decide +kernel
theorem dX3_readStatement_95 : decode cX3_readStatement 95 = .ok (.goto 4, 3) := by decide +kernel
theorem dX3_readStatement_98 : decode cX3_readStatement 98 = .ok (.iconst 0, 1) := by decide +kernel
theorem dX3_readStatement_99 : decode cX3_readStatement 99 = .ok (.invokevirtual 70, 3) := by decide +kernel
theorem dX3_readStatement_102 : decode cX3_readStatement 102 = .ok (.goto 79, 3) := by decide +kernel
theorem dX3_readStatement_105 : decode cX3_readStatement 105 = .ok (.aload_n 0, 1) := by decide +kernel
theorem dX3_readStatement_106 : decode cX3_readStatement 106 = .ok (.dup, 1) := by decide +kernel
theorem dX3_readStatement_107 : decode cX3_readStatement 107 = .ok (.getfield 27, 3) := by decide +kernel
theorem dX3_readStatement_110 : decode cX3_readStatement 110 = .ok (.iconst 1, 1) := by decide +kernel
theorem dX3_readStatement_111 : decode cX3_readStatement 111 = .ok (.iadd, 1) := by decide +kernel
theorem dX3_readStatement_112 : decode cX3_readStatement 112 = .ok (.putfield 27, 3) := by decide +kernel
theorem dX3_readStatement_115 : decode cX3_readStatement 115 = .ok (.aload_n 0, 1) := by decide +kernel
theorem dX3_readStatement_116 : decode cX3_readStatement 116 = .ok (.aload_n 0, 1) := by decide +kernel
theorem dX3_readStatement_117 : decode cX3_readStatement 117 = .ok (.iconst 3, 1) := by decide +kernel
theorem dX3_readStatement_118 : decode cX3_readStatement 118 = .ok (.invokevirtual 66, 3) := by decide +kernel
theorem dX3_readStatement_121 : decode cX3_readStatement 121 = .ok (.putfield 44, 3) := by decide +kernel
theorem dX3_readStatement_124 : decode cX3_readStatement 124 = .ok (.aload_n 0, 1) := by decide +kernel
theorem dX3_readStatement_125 : decode cX3_readStatement 125 = .ok (.aload_n 0, 1) := by decide +kernel
theorem dX3_readStatement_126 : decode cX3_readStatement 126 = .ok (.invokevirtual 63, 3) := by decide +kernel
theorem dX3_readStatement_129 : decode cX3_readStatement 129 = .ok (.bipush 44, 2) := by decide +kernel
theorem dX3_readStatement_131 : decode cX3_readStatement 131 = .ok (.if_icmp .ne 7, 3) := by decide +kernel
theorem dX3_readStatement_134 : decode cX3_readStatement 134 = .ok (.iconst 1, 1) := by decide +kernel
theorem dX3_readStatement_135 : decode cX3_readStatement 135 = .ok (.goto 4, 3) := by decide +kernel
theorem dX3_readStatement_138 : decode cX3_readStatement 138 = .ok (.iconst 0, 1) := by decide +kernel
theorem dX3_readStatement_139 : decode cX3_readStatement 139 = .ok (.invokevirtual 70, 3) := by decide +kernel
theorem dX3_readStatement_142 : decode cX3_readStatement 142 = .ok (.aload_n 0, 1) := by decide +kernel
theorem dX3_readStatement_143 : decode cX3_readStatement 143 = .ok (.aload_n 0, 1) := by decide +kernel
theorem dX3_readStatement_144 : decode cX3_readStatement 144 = .ok (.iconst 3, 1) := by decide +kernel
theorem dX3_readStatement_145 : decode cX3_readStatement 145 = .ok (.invokevirtual 66, 3) := by decide +kernel
theorem dX3_readStatement_148 : decode cX3_readStatement 148 = .ok (.putfield 47, 3) := by decide +kernel
theorem dX3_readStatement_151 : decode cX3_readStatement 151 = .ok (.goto 30, 3) := by decide +kernel
theorem dX3_readStatement_154 : decode cX3_readStatement 154 = .ok (.aload_n 0, 1) := by decide +kernel
theorem dX3_readStatement_155 : decode cX3_readStatement 155 = .ok (.dup, 1) := by decide +kernel
theorem dX3_readStatement_156 : decode cX3_readStatement 156 = .ok (.getfield 27, 3) := by decide +kernel
theorem dX3_readStatement_159 : decode cX3_readStatement 159 = .ok (.iconst 1, 1) := by decide +kernel
theorem dX3_readStatement_160 : decode cX3_readStatement 160 = .ok (.iadd, 1) := by decide +kernel
theorem dX3_readStatement_161 : decode cX3_readStatement 161 = .ok (.putfield 27, 3) := by decide +kernel
theorem dX3_readStatement_164 : decode cX3_readStatement 164 = .ok (.aload_n 0, 1) := by decide +kernel
theorem dX3_readStatement_165 : decode cX3_readStatement 165 = .ok (.aload_n 0, 1) := by decide +kernel
theorem dX3_readStatement_166 : decode cX3_readStatement 166 = .ok (.iconst 1, 1) := by decide +kernel
theorem dX3_readStatement_167 : decode cX3_readStatement 167 = .ok (.invokevirtual 66, 3) := by decide +kernel
theorem dX3_readStatement_170 : decode cX3_readStatement 170 = .ok (.putfield 44, 3) := by decide +kernel
theorem dX3_readStatement_173 : decode cX3_readStatement 173 = .ok (.goto 8, 3) := by decide +kernel
theorem dX3_readStatement_176 : decode cX3_readStatement 176 = .ok (.aload_n 0, 1) := by decide +kernel
theorem dX3_readStatement_177 : decode cX3_readStatement 177 = .ok (.iconst 1, 1) := by decide +kernel
theorem dX3_readStatement_178 : decode cX3_readStatement 178 = .ok (.putfield 30, 3) := by decide +kernel
theorem dX3_readStatement_181 : decode cX3_readStatement 181 = .ok (.aload_n 0, 1) := by decide +kernel
theorem dX3_readStatement_182 : decode cX3_readStatement 182 = .ok (.aload_n 0, 1) := by decide +kernel
theorem dX3_readStatement_183 : decode cX3_readStatement 183 = .ok (.invokevirtual 63, 3) := by decide +kernel
theorem dX3_readStatement_186 : decode cX3_readStatement 186 = .ok (.bipush 59, 2) := by decide +kernel
theorem dX3_readStatement_188 : decode cX3_readStatement 188 = .ok (.if_icmp .ne 7, 3) := by decide +kernel
theorem dX3_readStatement_191 : decode cX3_readStatement 191 = .ok (.iconst 1, 1) := by decide +kernel
theorem dX3_readStatement_192 : decode cX3_readStatement 192 = .ok (.goto 4, 3) := by decide +kernel
theorem dX3_readStatement_195 : decode cX3_readStatement 195 = .ok (.iconst 0, 1) := by decide +kernel
theorem dX3_readStatement_196 : decode cX3_readStatement 196 = .ok (.invokevirtual 70, 3) := by decide +kernel
theorem dX3_readStatement_199 : decode cX3_readStatement 199 = .ok (.return_, 1) := by decide +kernel
theorem dX3_look_0 : decode cX3_look 0 = .ok (.aload_n 0, 1) := by decide +kernel
theorem dX3_look_1 : decode cX3_look 1 = .ok (.getfield 27, 3) := by decide +kernel
theorem dX3_look_4 : decode cX3_look 4 = .ok (.aload_n 0, 1) := by decide +kernel
theorem dX3_look_5 : decode cX3_look 5 = .ok (.getfield 15, 3) := by decide +kernel
theorem dX3_look_8 : decode cX3_look 8 = .ok (.if_icmp .ge 24, 3) := by decide +kernel
theorem dX3_look_11 : decode cX3_look 11 = .ok (.aload_n 0, 1) := by decide +kernel
theorem dX3_look_12 : decode cX3_look 12 = .ok (.getfield 27, 3) := by decide +kernel
theorem dX3_look_15 : decode cX3_look 15 = .ok (.bipush 48, 2) := by decide +kernel
theorem dX3_look_17 : decode cX3_look 17 = .ok (.if_icmp .ge 15, 3) := by decide +kernel
theorem dX3_look_20 : decode cX3_look 20 = .ok (.aload_n 0, 1) := by decide +kernel
theorem dX3_look_21 : decode cX3_look 21 = .ok (.getfield 9, 3) := by decide +kernel
theorem dX3_look_24 : decode cX3_look 24 = .ok (.aload_n 0, 1) := by decide +kernel
theorem dX3_look_25 : decode cX3_look 25 = .ok (.getfield 27, 3) := by decide +kernel
theorem dX3_look_28 : decode cX3_look 28 = .ok (.iaload, 1) := by decide +kernel
theorem dX3_look_29 : decode cX3_look 29 = .ok (.goto 4, 3) := by decide +kernel
theorem dX3_look_32 : decode cX3_look 32 = .ok (.iconst (-1), 1) := by decide +kernel
theorem dX3_look_33 : decode cX3_look 33 = .ok (.ireturn, 1) := by decide +kernel
theorem dX3_take_0 : decode cX3_take 0 = .ok (.iload_n 1, 1) := by decide +kernel
theorem dX3_take_1 : decode cX3_take 1 = .ok (.ifCond .ne 8, 3) := by decide +kernel
theorem dX3_take_4 : decode cX3_take 4 = .ok (.aload_n 0, 1) := by decide +kernel
theorem dX3_take_5 : decode cX3_take 5 = .ok (.iconst 1, 1) := by decide +kernel
theorem dX3_take_6 : decode cX3_take 6 = .ok (.putfield 30, 3) := by decide +kernel
theorem dX3_take_9 : decode cX3_take 9 = .ok (.aload_n 0, 1) := by decide +kernel
theorem dX3_take_10 : decode cX3_take 10 = .ok (.getfield 30, 3) := by decide +kernel
theorem dX3_take_13 : decode cX3_take 13 = .ok (.ifCond .ne 13, 3) := by decide +kernel
theorem dX3_take_16 : decode cX3_take 16 = .ok (.aload_n 0, 1) := by decide +kernel
theorem dX3_take_17 : decode cX3_take 17 = .ok (.dup, 1) := by decide +kernel
theorem dX3_take_18 : decode cX3_take 18 = .ok (.getfield 27, 3) := by decide +kernel
theorem dX3_take_21 : decode cX3_take 21 = .ok (.iconst 1, 1) := by decide +kernel
theorem dX3_take_22 : decode cX3_take 22 = .ok (.iadd, 1) := by decide +kernel
theorem dX3_take_23 : decode cX3_take 23 = .ok (.putfield 27, 3) := by decide +kernel
theorem dX3_take_26 : decode cX3_take 26 = .ok (.return_, 1) := by decide +kernel
theorem dX3_readNumber_0 : decode cX3_readNumber 0 = .ok (.iconst 0, 1) := by decide +kernel
theorem dX3_readNumber_1 : decode cX3_readNumber 1 = .ok (.istore_n 2, 1) := by decide +kernel
theorem dX3_readNumber_2 : decode cX3_readNumber 2 = .ok (.iconst 0, 1) := by decide +kernel
theorem dX3_readNumber_3 : decode cX3_readNumber 3 = .ok (.istore_n 3, 1) := by decide +kernel
theorem dX3_readNumber_4 : decode cX3_readNumber 4 = .ok (.aload_n 0, 1) := by decide +kernel
theorem dX3_readNumber_5 : decode cX3_readNumber 5 = .ok (.invokevirtual 63, 3) := by decide +kernel
theorem dX3_readNumber_8 : decode cX3_readNumber 8 = .ok (.istore 4, 2) := by decide +kernel
theorem dX3_readNumber_10 : decode cX3_readNumber 10 = .ok (.aload_n 0, 1) := by decide +kernel
theorem dX3_readNumber_11 : decode cX3_readNumber 11 = .ok (.getfield 30, 3) := by decide +kernel
theorem dX3_readNumber_14 : decode cX3_readNumber 14 = .ok (.ifCond .ne 55, 3) := by decide +kernel
theorem dX3_readNumber_17 : decode cX3_readNumber 17 = .ok (.iload_n 3, 1) := by decide +kernel
theorem dX3_readNumber_18 : decode cX3_readNumber 18 = .ok (.iload_n 1, 1) := by decide +kernel
theorem dX3_readNumber_19 : decode cX3_readNumber 19 = .ok (.if_icmp .ge 50, 3) := by decide +kernel
theorem dX3_readNumber_22 : decode cX3_readNumber 22 = .ok (.iload 4, 2) := by decide +kernel
theorem dX3_readNumber_24 : decode cX3_readNumber 24 = .ok (.bipush 48, 2) := by decide +kernel
theorem dX3_readNumber_26 : decode cX3_readNumber 26 = .ok (.if_icmp .lt 43, 3) := by decide +kernel
theorem dX3_readNumber_29 : decode cX3_readNumber 29 = .ok (.iload 4, 2) := by decide +kernel
theorem dX3_readNumber_31 : decode cX3_readNumber 31 = .ok (.bipush 57, 2) := by decide +kernel
theorem dX3_readNumber_33 : decode cX3_readNumber 33 = .ok (.if_icmp .gt 36, 3) := by decide +kernel
theorem dX3_readNumber_36 : decode cX3_readNumber 36 = .ok (.iload_n 2, 1) := by decide +kernel
theorem dX3_readNumber_37 : decode cX3_readNumber 37 = .ok (.bipush 10, 2) := by decide +kernel
theorem dX3_readNumber_39 : decode cX3_readNumber 39 = .ok (.imul, 1) := by decide +kernel
theorem dX3_readNumber_40 : decode cX3_readNumber 40 = .ok (.iload 4, 2) := by decide +kernel
theorem dX3_readNumber_42 : decode cX3_readNumber 42 = .ok (.iadd, 1) := by decide +kernel
theorem dX3_readNumber_43 : decode cX3_readNumber 43 = .ok (.bipush 48, 2) := by decide +kernel
theorem dX3_readNumber_45 : decode cX3_readNumber 45 = .ok (.isub, 1) := by decide +kernel
theorem dX3_readNumber_46 : decode cX3_readNumber 46 = .ok (.istore_n 2, 1) := by decide +kernel
theorem dX3_readNumber_47 : decode cX3_readNumber 47 = .ok (.iinc 3 1, 3) := by decide +kernel
theorem dX3_readNumber_50 : decode cX3_readNumber 50 = .ok (.aload_n 0, 1) := by decide +kernel
theorem dX3_readNumber_51 : decode cX3_readNumber 51 = .ok (.dup, 1) := by decide +kernel
theorem dX3_readNumber_52 : decode cX3_readNumber 52 = .ok (.getfield 27, 3) := by decide +kernel
theorem dX3_readNumber_55 : decode cX3_readNumber 55 = .ok (.iconst 1, 1) := by decide +kernel
theorem dX3_readNumber_56 : decode cX3_readNumber 56 = .ok (.iadd, 1) := by decide +kernel
theorem dX3_readNumber_57 : decode cX3_readNumber 57 = .ok (.putfield 27, 3) := by decide +kernel
theorem dX3_readNumber_60 : decode cX3_readNumber 60 = .ok (.aload_n 0, 1) := by decide +kernel
theorem dX3_readNumber_61 : decode cX3_readNumber 61 = .ok (.invokevirtual 63, 3) := by decide +kernel
theorem dX3_readNumber_64 : decode cX3_readNumber 64 = .ok (.istore 4, 2) := by decide +kernel
theorem dX3_readNumber_66 : decode cX3_readNumber 66 = .ok (.goto (-56), 3) := by decide +kernel
theorem dX3_readNumber_69 : decode cX3_readNumber 69 = .ok (.iload_n 3, 1) := by decide +kernel
theorem dX3_readNumber_70 : decode cX3_readNumber 70 = .ok (.ifCond .ne 8, 3) := by decide +kernel
theorem dX3_readNumber_73 : decode cX3_readNumber 73 = .ok (.aload_n 0, 1) := by decide +kernel
theorem dX3_readNumber_74 : decode cX3_readNumber 74 = .ok (.iconst 1, 1) := by decide +kernel
theorem dX3_readNumber_75 : decode cX3_readNumber 75 = .ok (.putfield 30, 3) := by decide +kernel
theorem dX3_readNumber_78 : decode cX3_readNumber 78 = .ok (.iload_n 2, 1) := by decide +kernel
theorem dX3_readNumber_79 : decode cX3_readNumber 79 = .ok (.ireturn, 1) := by decide +kernel
theorem dX4_init_0 : decode cX4_init 0 = .ok (.aload_n 0, 1) := by decide +kernel
theorem dX4_init_1 : decode cX4_init 1 = .ok (.invokespecial 3, 3) := by decide +kernel
theorem dX4_init_4 : decode cX4_init 4 = .ok (.aload_n 0, 1) := by decide +kernel
theorem dX4_init_5 : decode cX4_init 5 = .ok (.iconst 3, 1) := by decide +kernel
theorem dX4_init_6 : decode cX4_init 6 = .ok (.newarray .int, 2) := by decide +kernel
theorem dX4_init_8 : decode cX4_init 8 = .ok (.putfield 9, 3) := by decide +kernel
theorem dX4_init_11 : decode cX4_init 11 = .ok (.aload_n 0, 1) := by decide +kernel
theorem dX4_init_12 : decode cX4_init 12 = .ok (.iconst 3, 1) := by decide +kernel
theorem dX4_init_13 : decode cX4_init 13 = .ok (.newarray .int, 2) := by decide +kernel
theorem dX4_init_15 : decode cX4_init 15 = .ok (.putfield 15, 3) := by decide +kernel
theorem dX4_init_18 : decode cX4_init 18 = .ok (.aload_n 0, 1) := by decide +kernel
theorem dX4_init_19 : decode cX4_init 19 = .ok (.iconst 4, 1) := by decide +kernel
theorem dX4_init_20 : decode cX4_init 20 = .ok (.newarray .int, 2) := by decide +kernel
theorem dX4_init_22 : decode cX4_init 22 = .ok (.putfield 18, 3) := by decide +kernel
theorem dX4_init_25 : decode cX4_init 25 = .ok (.aload_n 0, 1) := by decide +kernel
theorem dX4_init_26 : decode cX4_init 26 = .ok (.iconst 4, 1) := by decide +kernel
theorem dX4_init_27 : decode cX4_init 27 = .ok (.newarray .boolean, 2) := by decide +kernel
theorem dX4_init_29 : decode cX4_init 29 = .ok (.putfield 21, 3) := by decide +kernel
theorem dX4_init_32 : decode cX4_init 32 = .ok (.return_, 1) := by decide +kernel
theorem dX4_start_0 : decode cX4_start 0 = .ok (.iconst 0, 1) := by decide +kernel
theorem dX4_start_1 : decode cX4_start 1 = .ok (.istore_n 2, 1) := by decide +kernel
theorem dX4_start_2 : decode cX4_start 2 = .ok (.iload_n 2, 1) := by decide +kernel
theorem dX4_start_3 : decode cX4_start 3 = .ok (.iconst 2, 1) := by decide +kernel
theorem dX4_start_4 : decode cX4_start 4 = .ok (.if_icmp .gt 20, 3) := by decide +kernel
theorem dX4_start_7 : decode cX4_start 7 = .ok (.aload_n 0, 1) := by decide +kernel
theorem dX4_start_8 : decode cX4_start 8 = .ok (.getfield 15, 3) := by decide +kernel
theorem dX4_start_11 : decode cX4_start 11 = .ok (.iload_n 2, 1) := by decide +kernel
theorem dX4_start_12 : decode cX4_start 12 = .ok (.aload_n 1, 1) := by decide +kernel
theorem dX4_start_13 : decode cX4_start 13 = .ok (.iload_n 2, 1) := by decide +kernel
theorem dX4_start_14 : decode cX4_start 14 = .ok (.invokevirtual 25, 3) := by decide +kernel
theorem dX4_start_17 : decode cX4_start 17 = .ok (.iastore, 1) := by decide +kernel
theorem dX4_start_18 : decode cX4_start 18 = .ok (.iinc 2 1, 3) := by decide +kernel
theorem dX4_start_21 : decode cX4_start 21 = .ok (.goto (-19), 3) := by decide +kernel
theorem dX4_start_24 : decode cX4_start 24 = .ok (.aload_n 0, 1) := by decide +kernel
theorem dX4_start_25 : decode cX4_start 25 = .ok (.aload_n 1, 1) := by decide +kernel
theorem dX4_start_26 : decode cX4_start 26 = .ok (.invokevirtual 30, 3) := by decide +kernel
theorem dX4_start_29 : decode cX4_start 29 = .ok (.putfield 34, 3) := by decide +kernel
theorem dX4_start_32 : decode cX4_start 32 = .ok (.aload_n 0, 1) := by decide +kernel
theorem dX4_start_33 : decode cX4_start 33 = .ok (.aload_n 1, 1) := by decide +kernel
theorem dX4_start_34 : decode cX4_start 34 = .ok (.getfield 38, 3) := by decide +kernel
theorem dX4_start_37 : decode cX4_start 37 = .ok (.iconst 5, 1) := by decide +kernel
theorem dX4_start_38 : decode cX4_start 38 = .ok (.iaload, 1) := by decide +kernel
theorem dX4_start_39 : decode cX4_start 39 = .ok (.putfield 41, 3) := by decide +kernel
theorem dX4_start_42 : decode cX4_start 42 = .ok (.aload_n 0, 1) := by decide +kernel
theorem dX4_start_43 : decode cX4_start 43 = .ok (.aload_n 1, 1) := by decide +kernel
theorem dX4_start_44 : decode cX4_start 44 = .ok (.invokevirtual 44, 3) := by decide +kernel
theorem dX4_start_47 : decode cX4_start 47 = .ok (.ifCond .le 7, 3) := by decide +kernel
theorem dX4_start_50 : decode cX4_start 50 = .ok (.iconst 1, 1) := by decide +kernel
theorem dX4_start_51 : decode cX4_start 51 = .ok (.goto 4, 3) := by decide +kernel
theorem dX4_start_54 : decode cX4_start 54 = .ok (.iconst 0, 1) := by decide +kernel
theorem dX4_start_55 : decode cX4_start 55 = .ok (.putfield 47, 3) := by decide +kernel
theorem dX4_start_58 : decode cX4_start 58 = .ok (.aload_n 0, 1) := by decide +kernel
theorem dX4_start_59 : decode cX4_start 59 = .ok (.aload_n 1, 1) := by decide +kernel
theorem dX4_start_60 : decode cX4_start 60 = .ok (.getfield 51, 3) := by decide +kernel
theorem dX4_start_63 : decode cX4_start 63 = .ok (.putfield 54, 3) := by decide +kernel
theorem dX4_start_66 : decode cX4_start 66 = .ok (.aload_n 0, 1) := by decide +kernel
theorem dX4_start_67 : decode cX4_start 67 = .ok (.iconst 0, 1) := by decide +kernel
theorem dX4_start_68 : decode cX4_start 68 = .ok (.putfield 55, 3) := by decide +kernel
theorem dX4_start_71 : decode cX4_start 71 = .ok (.aload_n 0, 1) := by decide +kernel
theorem dX4_start_72 : decode cX4_start 72 = .ok (.iconst 0, 1) := by decide +kernel
theorem dX4_start_73 : decode cX4_start 73 = .ok (.putfield 58, 3) := by decide +kernel
theorem dX4_start_76 : decode cX4_start 76 = .ok (.aload_n 0, 1) := by decide +kernel
theorem dX4_start_77 : decode cX4_start 77 = .ok (.iconst 0, 1) := by decide +kernel
theorem dX4_start_78 : decode cX4_start 78 = .ok (.putfield 61, 3) := by decide +kernel
theorem dX4_start_81 : decode cX4_start 81 = .ok (.aload_n 0, 1) := by decide +kernel
theorem dX4_start_82 : decode cX4_start 82 = .ok (.iconst 0, 1) := by decide +kernel
theorem dX4_start_83 : decode cX4_start 83 = .ok (.putfield 64, 3) := by decide +kernel
theorem dX4_start_86 : decode cX4_start 86 = .ok (.aload_n 0, 1) := by decide +kernel
theorem dX4_start_87 : decode cX4_start 87 = .ok (.iconst 0, 1) := by decide +kernel
theorem dX4_start_88 : decode cX4_start 88 = .ok (.putfield 67, 3) := by decide +kernel
theorem dX4_start_91 : decode cX4_start 91 = .ok (.iconst 0, 1) := by decide +kernel
theorem dX4_start_92 : decode cX4_start 92 = .ok (.istore_n 2, 1) := by decide +kernel
theorem dX4_start_93 : decode cX4_start 93 = .ok (.iload_n 2, 1) := by decide +kernel
theorem dX4_start_94 : decode cX4_start 94 = .ok (.iconst 4, 1) := by decide +kernel
theorem dX4_start_95 : decode cX4_start 95 = .ok (.if_icmp .ge 23, 3) := by decide +kernel
theorem dX4_start_98 : decode cX4_start 98 = .ok (.aload_n 0, 1) := by decide +kernel
theorem dX4_start_99 : decode cX4_start 99 = .ok (.getfield 18, 3) := by decide +kernel
theorem dX4_start_102 : decode cX4_start 102 = .ok (.iload_n 2, 1) := by decide +kernel
theorem dX4_start_103 : decode cX4_start 103 = .ok (.iconst 0, 1) := by decide +kernel
theorem dX4_start_104 : decode cX4_start 104 = .ok (.iastore, 1) := by decide +kernel
theorem dX4_start_105 : decode cX4_start 105 = .ok (.aload_n 0, 1) := by decide +kernel
theorem dX4_start_106 : decode cX4_start 106 = .ok (.getfield 21, 3) := by decide +kernel
theorem dX4_start_109 : decode cX4_start 109 = .ok (.iload_n 2, 1) := by decide +kernel
theorem dX4_start_110 : decode cX4_start 110 = .ok (.iconst 0, 1) := by decide +kernel
theorem dX4_start_111 : decode cX4_start 111 = .ok (.bastore, 1) := by decide +kernel
theorem dX4_start_112 : decode cX4_start 112 = .ok (.iinc 2 1, 3) := by decide +kernel
theorem dX4_start_115 : decode cX4_start 115 = .ok (.goto (-22), 3) := by decide +kernel
theorem dX4_start_118 : decode cX4_start 118 = .ok (.aload_n 0, 1) := by decide +kernel
theorem dX4_start_119 : decode cX4_start 119 = .ok (.invokevirtual 70, 3) := by decide +kernel
theorem dX4_start_122 : decode cX4_start 122 = .ok (.return_, 1) := by decide +kernel
theorem dX4_goUp_0 : decode cX4_goUp 0 = .ok (.iload_n 1, 1) := by decide +kernel
theorem dX4_goUp_1 : decode cX4_goUp 1 = .ok (.ifCond .lt 8, 3) := by decide +kernel
theorem dX4_goUp_4 : decode cX4_goUp 4 = .ok (.iload_n 1, 1) := by decide +kernel
theorem dX4_goUp_5 : decode cX4_goUp 5 = .ok (.iconst 2, 1) := by decide +kernel
theorem dX4_goUp_6 : decode cX4_goUp 6 = .ok (.if_icmp .le 4, 3) := by decide +kernel
theorem dX4_goUp_9 : decode cX4_goUp 9 = .ok (.return_, 1) := by decide +kernel
theorem dX4_goUp_10 : decode cX4_goUp 10 = .ok (.iload_n 2, 1) := by decide +kernel
theorem dX4_goUp_11 : decode cX4_goUp 11 = .ok (.aload_n 0, 1) := by decide +kernel
theorem dX4_goUp_12 : decode cX4_goUp 12 = .ok (.getfield 15, 3) := by decide +kernel
theorem dX4_goUp_15 : decode cX4_goUp 15 = .ok (.iload_n 1, 1) := by decide +kernel
theorem dX4_goUp_16 : decode cX4_goUp 16 = .ok (.iaload, 1) := by decide +kernel
theorem dX4_goUp_17 : decode cX4_goUp 17 = .ok (.iadd, 1) := by decide +kernel
theorem dX4_goUp_18 : decode cX4_goUp 18 = .ok (.istore_n 3, 1) := by decide +kernel
theorem dX4_goUp_19 : decode cX4_goUp 19 = .ok (.aload_n 0, 1) := by decide +kernel
theorem dX4_goUp_20 : decode cX4_goUp 20 = .ok (.aload_n 0, 1) := by decide +kernel
theorem dX4_goUp_21 : decode cX4_goUp 21 = .ok (.getfield 55, 3) := by decide +kernel
theorem dX4_goUp_24 : decode cX4_goUp 24 = .ok (.iload_n 3, 1) := by decide +kernel
theorem dX4_goUp_25 : decode cX4_goUp 25 = .ok (.invokestatic 73, 3) := by decide +kernel
theorem dX4_goUp_28 : decode cX4_goUp 28 = .ok (.putfield 55, 3) := by decide +kernel
theorem dX4_goUp_31 : decode cX4_goUp 31 = .ok (.aload_n 0, 1) := by decide +kernel
theorem dX4_goUp_32 : decode cX4_goUp 32 = .ok (.iload_n 2, 1) := by decide +kernel
theorem dX4_goUp_33 : decode cX4_goUp 33 = .ok (.aload_n 0, 1) := by decide +kernel
theorem dX4_goUp_34 : decode cX4_goUp 34 = .ok (.getfield 41, 3) := by decide +kernel
theorem dX4_goUp_37 : decode cX4_goUp 37 = .ok (.iadd, 1) := by decide +kernel
theorem dX4_goUp_38 : decode cX4_goUp 38 = .ok (.putfield 64, 3) := by decide +kernel
theorem dX4_goUp_41 : decode cX4_goUp 41 = .ok (.iload_n 1, 1) := by decide +kernel
theorem dX4_goUp_42 : decode cX4_goUp 42 = .ok (.iconst 2, 1) := by decide +kernel
theorem dX4_goUp_43 : decode cX4_goUp 43 = .ok (.if_icmp .ne 8, 3) := by decide +kernel
theorem dX4_goUp_46 : decode cX4_goUp 46 = .ok (.aload_n 0, 1) := by decide +kernel
theorem dX4_goUp_47 : decode cX4_goUp 47 = .ok (.iload_n 3, 1) := by decide +kernel
theorem dX4_goUp_48 : decode cX4_goUp 48 = .ok (.putfield 61, 3) := by decide +kernel
theorem dX4_goUp_51 : decode cX4_goUp 51 = .ok (.iload_n 1, 1) := by decide +kernel
theorem dX4_goUp_52 : decode cX4_goUp 52 = .ok (.ifCond .eq 9, 3) := by decide +kernel
theorem dX4_goUp_55 : decode cX4_goUp 55 = .ok (.aload_n 0, 1) := by decide +kernel
theorem dX4_goUp_56 : decode cX4_goUp 56 = .ok (.iconst 0, 1) := by decide +kernel
theorem dX4_goUp_57 : decode cX4_goUp 57 = .ok (.iload_n 3, 1) := by decide +kernel
theorem dX4_goUp_58 : decode cX4_goUp 58 = .ok (.invokevirtual 79, 3) := by decide +kernel
theorem dX4_goUp_61 : decode cX4_goUp 61 = .ok (.aload_n 0, 1) := by decide +kernel
theorem dX4_goUp_62 : decode cX4_goUp 62 = .ok (.invokevirtual 70, 3) := by decide +kernel
theorem dX4_goUp_65 : decode cX4_goUp 65 = .ok (.return_, 1) := by decide +kernel
theorem dX4_comeDown_0 : decode cX4_comeDown 0 = .ok (.aload_n 0, 1) := by decide +kernel
theorem dX4_comeDown_1 : decode cX4_comeDown 1 = .ok (.iload_n 1, 1) := by decide +kernel
theorem dX4_comeDown_2 : decode cX4_comeDown 2 = .ok (.aload_n 0, 1) := by decide +kernel
theorem dX4_comeDown_3 : decode cX4_comeDown 3 = .ok (.getfield 34, 3) := by decide +kernel
theorem dX4_comeDown_6 : decode cX4_comeDown 6 = .ok (.iadd, 1) := by decide +kernel
theorem dX4_comeDown_7 : decode cX4_comeDown 7 = .ok (.putfield 58, 3) := by decide +kernel
theorem dX4_comeDown_10 : decode cX4_comeDown 10 = .ok (.aload_n 0, 1) := by decide +kernel
theorem dX4_comeDown_11 : decode cX4_comeDown 11 = .ok (.iload_n 1, 1) := by decide +kernel
theorem dX4_comeDown_12 : decode cX4_comeDown 12 = .ok (.aload_n 0, 1) := by decide +kernel
theorem dX4_comeDown_13 : decode cX4_comeDown 13 = .ok (.getfield 41, 3) := by decide +kernel
theorem dX4_comeDown_16 : decode cX4_comeDown 16 = .ok (.iadd, 1) := by decide +kernel
theorem dX4_comeDown_17 : decode cX4_comeDown 17 = .ok (.putfield 67, 3) := by decide +kernel
theorem dX4_comeDown_20 : decode cX4_comeDown 20 = .ok (.aload_n 0, 1) := by decide +kernel
theorem dX4_comeDown_21 : decode cX4_comeDown 21 = .ok (.iconst 1, 1) := by decide +kernel
theorem dX4_comeDown_22 : decode cX4_comeDown 22 = .ok (.aload_n 0, 1) := by decide +kernel
theorem dX4_comeDown_23 : decode cX4_comeDown 23 = .ok (.getfield 58, 3) := by decide +kernel
theorem dX4_comeDown_26 : decode cX4_comeDown 26 = .ok (.invokevirtual 79, 3) := by decide +kernel
theorem dX4_comeDown_29 : decode cX4_comeDown 29 = .ok (.aload_n 0, 1) := by decide +kernel
theorem dX4_comeDown_30 : decode cX4_comeDown 30 = .ok (.invokevirtual 70, 3) := by decide +kernel
theorem dX4_comeDown_33 : decode cX4_comeDown 33 = .ok (.return_, 1) := by decide +kernel
theorem dX4_lookAhead_0 : decode cX4_lookAhead 0 = .ok (.aload_n 0, 1) := by decide +kernel
theorem dX4_lookAhead_1 : decode cX4_lookAhead 1 = .ok (.iconst 0, 1) := by decide +kernel
theorem dX4_lookAhead_2 : decode cX4_lookAhead 2 = .ok (.invokevirtual 83, 3) := by decide +kernel
theorem dX4_lookAhead_5 : decode cX4_lookAhead 5 = .ok (.istore_n 1, 1) := by decide +kernel
theorem dX4_lookAhead_6 : decode cX4_lookAhead 6 = .ok (.aload_n 0, 1) := by decide +kernel
theorem dX4_lookAhead_7 : decode cX4_lookAhead 7 = .ok (.iconst 1, 1) := by decide +kernel
theorem dX4_lookAhead_8 : decode cX4_lookAhead 8 = .ok (.invokevirtual 83, 3) := by decide +kernel
theorem dX4_lookAhead_11 : decode cX4_lookAhead 11 = .ok (.istore_n 2, 1) := by decide +kernel
theorem dX4_lookAhead_12 : decode cX4_lookAhead 12 = .ok (.aload_n 0, 1) := by decide +kernel
theorem dX4_lookAhead_13 : decode cX4_lookAhead 13 = .ok (.iload_n 1, 1) := by decide +kernel
theorem dX4_lookAhead_14 : decode cX4_lookAhead 14 = .ok (.ifCond .ge 8, 3) := by decide +kernel
theorem dX4_lookAhead_17 : decode cX4_lookAhead 17 = .ok (.ldc 87, 2) := by decide +kernel
theorem dX4_lookAhead_19 : decode cX4_lookAhead 19 = .ok (.goto 9, 3) := by decide +kernel
theorem dX4_lookAhead_22 : decode cX4_lookAhead 22 = .ok (.aload_n 0, 1) := by decide +kernel
theorem dX4_lookAhead_23 : decode cX4_lookAhead 23 = .ok (.getfield 18, 3) := by decide +kernel
theorem dX4_lookAhead_26 : decode cX4_lookAhead 26 = .ok (.iload_n 1, 1) := by decide +kernel
theorem dX4_lookAhead_27 : decode cX4_lookAhead 27 = .ok (.iaload, 1) := by decide +kernel
theorem dX4_lookAhead_28 : decode cX4_lookAhead 28 = .ok (.putfield 88, 3) := by decide +kernel
theorem dX4_lookAhead_31 : decode cX4_lookAhead 31 = .ok (.aload_n 0, 1) := by decide +kernel
theorem dX4_lookAhead_32 : decode cX4_lookAhead 32 = .ok (.getfield 61, 3) := by decide +kernel
theorem dX4_lookAhead_35 : decode cX4_lookAhead 35 = .ok (.aload_n 0, 1) := by decide +kernel
theorem dX4_lookAhead_36 : decode cX4_lookAhead 36 = .ok (.getfield 64, 3) := by decide +kernel
theorem dX4_lookAhead_39 : decode cX4_lookAhead 39 = .ok (.invokestatic 73, 3) := by decide +kernel
theorem dX4_lookAhead_42 : decode cX4_lookAhead 42 = .ok (.istore_n 3, 1) := by decide +kernel
theorem dX4_lookAhead_43 : decode cX4_lookAhead 43 = .ok (.aload_n 0, 1) := by decide +kernel
theorem dX4_lookAhead_44 : decode cX4_lookAhead 44 = .ok (.getfield 61, 3) := by decide +kernel
theorem dX4_lookAhead_47 : decode cX4_lookAhead 47 = .ok (.aload_n 0, 1) := by decide +kernel
theorem dX4_lookAhead_48 : decode cX4_lookAhead 48 = .ok (.getfield 67, 3) := by decide +kernel
theorem dX4_lookAhead_51 : decode cX4_lookAhead 51 = .ok (.invokestatic 73, 3) := by decide +kernel
theorem dX4_lookAhead_54 : decode cX4_lookAhead 54 = .ok (.istore 4, 2) := by decide +kernel
theorem dX4_lookAhead_56 : decode cX4_lookAhead 56 = .ok (.aload_n 0, 1) := by decide +kernel
theorem dX4_lookAhead_57 : decode cX4_lookAhead 57 = .ok (.getfield 47, 3) := by decide +kernel
theorem dX4_lookAhead_60 : decode cX4_lookAhead 60 = .ok (.ifCond .eq 23, 3) := by decide +kernel
theorem dX4_lookAhead_63 : decode cX4_lookAhead 63 = .ok (.iload_n 3, 1) := by decide +kernel
theorem dX4_lookAhead_64 : decode cX4_lookAhead 64 = .ok (.aload_n 0, 1) := by decide +kernel
theorem dX4_lookAhead_65 : decode cX4_lookAhead 65 = .ok (.getfield 58, 3) := by decide +kernel
theorem dX4_lookAhead_68 : decode cX4_lookAhead 68 = .ok (.invokestatic 73, 3) := by decide +kernel
theorem dX4_lookAhead_71 : decode cX4_lookAhead 71 = .ok (.istore_n 3, 1) := by decide +kernel
theorem dX4_lookAhead_72 : decode cX4_lookAhead 72 = .ok (.iload 4, 2) := by decide +kernel
theorem dX4_lookAhead_74 : decode cX4_lookAhead 74 = .ok (.aload_n 0, 1) := by decide +kernel
theorem dX4_lookAhead_75 : decode cX4_lookAhead 75 = .ok (.getfield 55, 3) := by decide +kernel
theorem dX4_lookAhead_78 : decode cX4_lookAhead 78 = .ok (.invokestatic 73, 3) := by decide +kernel
theorem dX4_lookAhead_81 : decode cX4_lookAhead 81 = .ok (.istore 4, 2) := by decide +kernel
theorem dX4_lookAhead_83 : decode cX4_lookAhead 83 = .ok (.aload_n 0, 1) := by decide +kernel
theorem dX4_lookAhead_84 : decode cX4_lookAhead 84 = .ok (.getfield 9, 3) := by decide +kernel
theorem dX4_lookAhead_87 : decode cX4_lookAhead 87 = .ok (.iconst 0, 1) := by decide +kernel
theorem dX4_lookAhead_88 : decode cX4_lookAhead 88 = .ok (.iload_n 3, 1) := by decide +kernel
theorem dX4_lookAhead_89 : decode cX4_lookAhead 89 = .ok (.iastore, 1) := by decide +kernel
theorem dX4_lookAhead_90 : decode cX4_lookAhead 90 = .ok (.aload_n 0, 1) := by decide +kernel
theorem dX4_lookAhead_91 : decode cX4_lookAhead 91 = .ok (.getfield 9, 3) := by decide +kernel
theorem dX4_lookAhead_94 : decode cX4_lookAhead 94 = .ok (.iconst 1, 1) := by decide +kernel
theorem dX4_lookAhead_95 : decode cX4_lookAhead 95 = .ok (.iload_n 3, 1) := by decide +kernel
theorem dX4_lookAhead_96 : decode cX4_lookAhead 96 = .ok (.aload_n 0, 1) := by decide +kernel
theorem dX4_lookAhead_97 : decode cX4_lookAhead 97 = .ok (.getfield 88, 3) := by decide +kernel
theorem dX4_lookAhead_100 : decode cX4_lookAhead 100 = .ok (.invokestatic 73, 3) := by decide +kernel
theorem dX4_lookAhead_103 : decode cX4_lookAhead 103 = .ok (.iastore, 1) := by decide +kernel
theorem dX4_lookAhead_104 : decode cX4_lookAhead 104 = .ok (.aload_n 0, 1) := by decide +kernel
theorem dX4_lookAhead_105 : decode cX4_lookAhead 105 = .ok (.getfield 9, 3) := by decide +kernel
theorem dX4_lookAhead_108 : decode cX4_lookAhead 108 = .ok (.iconst 2, 1) := by decide +kernel
theorem dX4_lookAhead_109 : decode cX4_lookAhead 109 = .ok (.aload_n 0, 1) := by decide +kernel
theorem dX4_lookAhead_110 : decode cX4_lookAhead 110 = .ok (.getfield 9, 3) := by decide +kernel
theorem dX4_lookAhead_113 : decode cX4_lookAhead 113 = .ok (.iconst 1, 1) := by decide +kernel
theorem dX4_lookAhead_114 : decode cX4_lookAhead 114 = .ok (.iaload, 1) := by decide +kernel
theorem dX4_lookAhead_115 : decode cX4_lookAhead 115 = .ok (.aload_n 0, 1) := by decide +kernel
theorem dX4_lookAhead_116 : decode cX4_lookAhead 116 = .ok (.getfield 55, 3) := by decide +kernel
theorem dX4_lookAhead_119 : decode cX4_lookAhead 119 = .ok (.aload_n 0, 1) := by decide +kernel
theorem dX4_lookAhead_120 : decode cX4_lookAhead 120 = .ok (.getfield 58, 3) := by decide +kernel
theorem dX4_lookAhead_123 : decode cX4_lookAhead 123 = .ok (.invokestatic 73, 3) := by decide +kernel
theorem dX4_lookAhead_126 : decode cX4_lookAhead 126 = .ok (.invokestatic 73, 3) := by decide +kernel
theorem dX4_lookAhead_129 : decode cX4_lookAhead 129 = .ok (.iastore, 1) := by decide +kernel
theorem dX4_lookAhead_130 : decode cX4_lookAhead 130 = .ok (.aload_n 0, 1) := by decide +kernel
theorem dX4_lookAhead_131 : decode cX4_lookAhead 131 = .ok (.iload_n 2, 1) := by decide +kernel
theorem dX4_lookAhead_132 : decode cX4_lookAhead 132 = .ok (.ifCond .ge 8, 3) := by decide +kernel
theorem dX4_lookAhead_135 : decode cX4_lookAhead 135 = .ok (.ldc 87, 2) := by decide +kernel
theorem dX4_lookAhead_137 : decode cX4_lookAhead 137 = .ok (.goto 14, 3) := by decide +kernel
theorem dX4_lookAhead_140 : decode cX4_lookAhead 140 = .ok (.iload 4, 2) := by decide +kernel
theorem dX4_lookAhead_142 : decode cX4_lookAhead 142 = .ok (.aload_n 0, 1) := by decide +kernel
theorem dX4_lookAhead_143 : decode cX4_lookAhead 143 = .ok (.getfield 18, 3) := by decide +kernel
theorem dX4_lookAhead_146 : decode cX4_lookAhead 146 = .ok (.iload_n 2, 1) := by decide +kernel
theorem dX4_lookAhead_147 : decode cX4_lookAhead 147 = .ok (.iaload, 1) := by decide +kernel
theorem dX4_lookAhead_148 : decode cX4_lookAhead 148 = .ok (.invokestatic 73, 3) := by decide +kernel
theorem dX4_lookAhead_151 : decode cX4_lookAhead 151 = .ok (.putfield 91, 3) := by decide +kernel
theorem dX4_lookAhead_154 : decode cX4_lookAhead 154 = .ok (.return_, 1) := by decide +kernel
theorem dX4_firstEngine_0 : decode cX4_firstEngine 0 = .ok (.iconst (-1), 1) := by decide +kernel
theorem dX4_firstEngine_1 : decode cX4_firstEngine 1 = .ok (.istore_n 2, 1) := by decide +kernel
theorem dX4_firstEngine_2 : decode cX4_firstEngine 2 = .ok (.iconst 0, 1) := by decide +kernel
theorem dX4_firstEngine_3 : decode cX4_firstEngine 3 = .ok (.istore_n 3, 1) := by decide +kernel
theorem dX4_firstEngine_4 : decode cX4_firstEngine 4 = .ok (.iload_n 3, 1) := by decide +kernel
theorem dX4_firstEngine_5 : decode cX4_firstEngine 5 = .ok (.aload_n 0, 1) := by decide +kernel
theorem dX4_firstEngine_6 : decode cX4_firstEngine 6 = .ok (.getfield 54, 3) := by decide +kernel
theorem dX4_firstEngine_9 : decode cX4_firstEngine 9 = .ok (.if_icmp .ge 45, 3) := by decide +kernel
theorem dX4_firstEngine_12 : decode cX4_firstEngine 12 = .ok (.iload_n 3, 1) := by decide +kernel
theorem dX4_firstEngine_13 : decode cX4_firstEngine 13 = .ok (.iconst 4, 1) := by decide +kernel
theorem dX4_firstEngine_14 : decode cX4_firstEngine 14 = .ok (.if_icmp .ge 40, 3) := by decide +kernel
theorem dX4_firstEngine_17 : decode cX4_firstEngine 17 = .ok (.aload_n 0, 1) := by decide +kernel
theorem dX4_firstEngine_18 : decode cX4_firstEngine 18 = .ok (.getfield 21, 3) := by decide +kernel
theorem dX4_firstEngine_21 : decode cX4_firstEngine 21 = .ok (.iload_n 3, 1) := by decide +kernel
theorem dX4_firstEngine_22 : decode cX4_firstEngine 22 = .ok (.baload, 1) := by decide +kernel
theorem dX4_firstEngine_23 : decode cX4_firstEngine 23 = .ok (.iload_n 1, 1) := by decide +kernel
theorem dX4_firstEngine_24 : decode cX4_firstEngine 24 = .ok (.if_icmp .ne 24, 3) := by decide +kernel
theorem dX4_firstEngine_27 : decode cX4_firstEngine 27 = .ok (.iload_n 2, 1) := by decide +kernel
theorem dX4_firstEngine_28 : decode cX4_firstEngine 28 = .ok (.ifCond .lt 18, 3) := by decide +kernel
theorem dX4_firstEngine_31 : decode cX4_firstEngine 31 = .ok (.aload_n 0, 1) := by decide +kernel
theorem dX4_firstEngine_32 : decode cX4_firstEngine 32 = .ok (.getfield 18, 3) := by decide +kernel
theorem dX4_firstEngine_35 : decode cX4_firstEngine 35 = .ok (.iload_n 3, 1) := by decide +kernel
theorem dX4_firstEngine_36 : decode cX4_firstEngine 36 = .ok (.iaload, 1) := by decide +kernel
theorem dX4_firstEngine_37 : decode cX4_firstEngine 37 = .ok (.aload_n 0, 1) := by decide +kernel
theorem dX4_firstEngine_38 : decode cX4_firstEngine 38 = .ok (.getfield 18, 3) := by decide +kernel
theorem dX4_firstEngine_41 : decode cX4_firstEngine 41 = .ok (.iload_n 2, 1) := by decide +kernel
theorem dX4_firstEngine_42 : decode cX4_firstEngine 42 = .ok (.iaload, 1) := by decide +kernel
theorem dX4_firstEngine_43 : decode cX4_firstEngine 43 = .ok (.if_icmp .ge 5, 3) := by decide +kernel
theorem dX4_firstEngine_46 : decode cX4_firstEngine 46 = .ok (.iload_n 3, 1) := by decide +kernel
theorem dX4_firstEngine_47 : decode cX4_firstEngine 47 = .ok (.istore_n 2, 1) := by decide +kernel
theorem dX4_firstEngine_48 : decode cX4_firstEngine 48 = .ok (.iinc 3 1, 3) := by decide +kernel
theorem dX4_firstEngine_51 : decode cX4_firstEngine 51 = .ok (.goto (-47), 3) := by decide +kernel
theorem dX4_firstEngine_54 : decode cX4_firstEngine 54 = .ok (.iload_n 2, 1) := by decide +kernel
theorem dX4_firstEngine_55 : decode cX4_firstEngine 55 = .ok (.ireturn, 1) := by decide +kernel
theorem dX4_moveEngine_0 : decode cX4_moveEngine 0 = .ok (.aload_n 0, 1) := by decide +kernel
theorem dX4_moveEngine_1 : decode cX4_moveEngine 1 = .ok (.iload_n 1, 1) := by decide +kernel
theorem dX4_moveEngine_2 : decode cX4_moveEngine 2 = .ok (.invokevirtual 83, 3) := by decide +kernel
theorem dX4_moveEngine_5 : decode cX4_moveEngine 5 = .ok (.istore_n 3, 1) := by decide +kernel
theorem dX4_moveEngine_6 : decode cX4_moveEngine 6 = .ok (.iload_n 3, 1) := by decide +kernel
theorem dX4_moveEngine_7 : decode cX4_moveEngine 7 = .ok (.ifCond .lt 25, 3) := by decide +kernel
theorem dX4_moveEngine_10 : decode cX4_moveEngine 10 = .ok (.aload_n 0, 1) := by decide +kernel
theorem dX4_moveEngine_11 : decode cX4_moveEngine 11 = .ok (.getfield 21, 3) := by decide +kernel
theorem dX4_moveEngine_14 : decode cX4_moveEngine 14 = .ok (.iload_n 3, 1) := by decide +kernel
theorem dX4_moveEngine_15 : decode cX4_moveEngine 15 = .ok (.iload_n 1, 1) := by decide +kernel
theorem dX4_moveEngine_16 : decode cX4_moveEngine 16 = .ok (.ifCond .ne 7, 3) := by decide +kernel
theorem dX4_moveEngine_19 : decode cX4_moveEngine 19 = .ok (.iconst 1, 1) := by decide +kernel
theorem dX4_moveEngine_20 : decode cX4_moveEngine 20 = .ok (.goto 4, 3) := by decide +kernel
theorem dX4_moveEngine_23 : decode cX4_moveEngine 23 = .ok (.iconst 0, 1) := by decide +kernel
theorem dX4_moveEngine_24 : decode cX4_moveEngine 24 = .ok (.bastore, 1) := by decide +kernel
theorem dX4_moveEngine_25 : decode cX4_moveEngine 25 = .ok (.aload_n 0, 1) := by decide +kernel
theorem dX4_moveEngine_26 : decode cX4_moveEngine 26 = .ok (.getfield 18, 3) := by decide +kernel
theorem dX4_moveEngine_29 : decode cX4_moveEngine 29 = .ok (.iload_n 3, 1) := by decide +kernel
theorem dX4_moveEngine_30 : decode cX4_moveEngine 30 = .ok (.iload_n 2, 1) := by decide +kernel
theorem dX4_moveEngine_31 : decode cX4_moveEngine 31 = .ok (.iastore, 1) := by decide +kernel
theorem dX4_moveEngine_32 : decode cX4_moveEngine 32 = .ok (.return_, 1) := by decide +kernel
end
section
/-! decode rows -/
theorem dX5_init_0 : decode cX5_init 0 = .ok (.aload_n 0, 1) := by decide +kernel
theorem dX5_init_1 : decode cX5_init 1 = .ok (.invokespecial 1, 3) := by decide +kernel
theorem dX5_init_4 : decode cX5_init 4 = .ok (.aload_n 0, 1) := by decide +kernel
theorem dX5_init_5 : decode cX5_init 5 = .ok (.new 7, 3) := by decide +kernel
theorem dX5_init_8 : decode cX5_init 8 = .ok (.dup, 1) := by decide +kernel
theorem dX5_init_9 : decode cX5_init 9 = .ok (.invokespecial 9, 3) := by decide +kernel
theorem dX5_init_12 : decode cX5_init 12 = .ok (.putfield 10, 3) := by decide +kernel
theorem dX5_init_15 : decode cX5_init 15 = .ok (.aload_n 0, 1) := by decide +kernel
theorem dX5_init_16 : decode cX5_init 16 = .ok (.aload_n 0, 1) := by decide +kernel
theorem dX5_init_17 : decode cX5_init 17 = .ok (.getfield 10, 3) := by decide +kernel
theorem dX5_init_20 : decode cX5_init 20 = .ok (.getfield 16, 3) := by decide +kernel
theorem dX5_init_23 : decode cX5_init 23 = .ok (.putfield 20, 3) := by decide +kernel
theorem dX5_init_26 : decode cX5_init 26 = .ok (.aload_n 0, 1) := by decide +kernel
theorem dX5_init_27 : decode cX5_init 27 = .ok (.new 7, 3) := by decide +kernel
theorem dX5_init_30 : decode cX5_init 30 = .ok (.dup, 1) := by decide +kernel
theorem dX5_init_31 : decode cX5_init 31 = .ok (.invokespecial 9, 3) := by decide +kernel
theorem dX5_init_34 : decode cX5_init 34 = .ok (.putfield 21, 3) := by decide +kernel
theorem dX5_init_37 : decode cX5_init 37 = .ok (.aload_n 0, 1) := by decide +kernel
theorem dX5_init_38 : decode cX5_init 38 = .ok (.aload_n 0, 1) := by decide +kernel
theorem dX5_init_39 : decode cX5_init 39 = .ok (.getfield 21, 3) := by decide +kernel
theorem dX5_init_42 : decode cX5_init 42 = .ok (.getfield 16, 3) := by decide +kernel
theorem dX5_init_45 : decode cX5_init 45 = .ok (.putfield 24, 3) := by decide +kernel
theorem dX5_init_48 : decode cX5_init 48 = .ok (.aload_n 0, 1) := by decide +kernel
theorem dX5_init_49 : decode cX5_init 49 = .ok (.new 27, 3) := by decide +kernel
theorem dX5_init_52 : decode cX5_init 52 = .ok (.dup, 1) := by decide +kernel
theorem dX5_init_53 : decode cX5_init 53 = .ok (.invokespecial 29, 3) := by decide +kernel
theorem dX5_init_56 : decode cX5_init 56 = .ok (.putfield 30, 3) := by decide +kernel
theorem dX5_init_59 : decode cX5_init 59 = .ok (.aload_n 0, 1) := by decide +kernel
theorem dX5_init_60 : decode cX5_init 60 = .ok (.new 33, 3) := by decide +kernel
theorem dX5_init_63 : decode cX5_init 63 = .ok (.dup, 1) := by decide +kernel
theorem dX5_init_64 : decode cX5_init 64 = .ok (.invokespecial 35, 3) := by decide +kernel
theorem dX5_init_67 : decode cX5_init 67 = .ok (.putfield 36, 3) := by decide +kernel
theorem dX5_init_70 : decode cX5_init 70 = .ok (.aload_n 0, 1) := by decide +kernel
theorem dX5_init_71 : decode cX5_init 71 = .ok (.new 40, 3) := by decide +kernel
theorem dX5_init_74 : decode cX5_init 74 = .ok (.dup, 1) := by decide +kernel
theorem dX5_init_75 : decode cX5_init 75 = .ok (.invokespecial 42, 3) := by decide +kernel
theorem dX5_init_78 : decode cX5_init 78 = .ok (.putfield 43, 3) := by decide +kernel
theorem dX5_init_81 : decode cX5_init 81 = .ok (.aload_n 0, 1) := by decide +kernel
theorem dX5_init_82 : decode cX5_init 82 = .ok (.bipush 8, 2) := by decide +kernel
theorem dX5_init_84 : decode cX5_init 84 = .ok (.newarray .int, 2) := by decide +kernel
theorem dX5_init_86 : decode cX5_init 86 = .ok (.putfield 47, 3) := by decide +kernel
theorem dX5_init_89 : decode cX5_init 89 = .ok (.aload_n 0, 1) := by decide +kernel
theorem dX5_init_90 : decode cX5_init 90 = .ok (.bipush 7, 2) := by decide +kernel
theorem dX5_init_92 : decode cX5_init 92 = .ok (.newarray .int, 2) := by decide +kernel
theorem dX5_init_94 : decode cX5_init 94 = .ok (.putfield 51, 3) := by decide +kernel
theorem dX5_init_97 : decode cX5_init 97 = .ok (.return_, 1) := by decide +kernel
theorem dX5_feed_0 : decode cX5_feed 0 = .ok (.iload_n 1, 1) := by decide +kernel
theorem dX5_feed_1 : decode cX5_feed 1 = .ok (.iconst 1, 1) := by decide +kernel
theorem dX5_feed_2 : decode cX5_feed 2 = .ok (.if_icmp .ge 10, 3) := by decide +kernel
theorem dX5_feed_5 : decode cX5_feed 5 = .ok (.aload_n 0, 1) := by decide +kernel
theorem dX5_feed_6 : decode cX5_feed 6 = .ok (.bipush (-4), 2) := by decide +kernel
theorem dX5_feed_8 : decode cX5_feed 8 = .ok (.invokevirtual 54, 3) := by decide +kernel
theorem dX5_feed_11 : decode cX5_feed 11 = .ok (.ireturn, 1) := by decide +kernel
theorem dX5_feed_12 : decode cX5_feed 12 = .ok (.iload_n 1, 1) := by decide +kernel
theorem dX5_feed_13 : decode cX5_feed 13 = .ok (.bipush 8, 2) := by decide +kernel
theorem dX5_feed_15 : decode cX5_feed 15 = .ok (.if_icmp .gt 14, 3) := by decide +kernel
theorem dX5_feed_18 : decode cX5_feed 18 = .ok (.aload_n 0, 1) := by decide +kernel
theorem dX5_feed_19 : decode cX5_feed 19 = .ok (.getfield 36, 3) := by decide +kernel
theorem dX5_feed_22 : decode cX5_feed 22 = .ok (.iload_n 1, 1) := by decide +kernel
theorem dX5_feed_23 : decode cX5_feed 23 = .ok (.invokevirtual 58, 3) := by decide +kernel
theorem dX5_feed_26 : decode cX5_feed 26 = .ok (.ifCond .ne 10, 3) := by decide +kernel
theorem dX5_feed_29 : decode cX5_feed 29 = .ok (.aload_n 0, 1) := by decide +kernel
theorem dX5_feed_30 : decode cX5_feed 30 = .ok (.bipush (-6), 2) := by decide +kernel
theorem dX5_feed_32 : decode cX5_feed 32 = .ok (.invokevirtual 54, 3) := by decide +kernel
theorem dX5_feed_35 : decode cX5_feed 35 = .ok (.ireturn, 1) := by decide +kernel
theorem dX5_feed_36 : decode cX5_feed 36 = .ok (.aload_n 0, 1) := by decide +kernel
theorem dX5_feed_37 : decode cX5_feed 37 = .ok (.getfield 36, 3) := by decide +kernel
theorem dX5_feed_40 : decode cX5_feed 40 = .ok (.iload_n 1, 1) := by decide +kernel
theorem dX5_feed_41 : decode cX5_feed 41 = .ok (.lload_n 2, 1) := by decide +kernel
theorem dX5_feed_42 : decode cX5_feed 42 = .ok (.invokevirtual 62, 3) := by decide +kernel
theorem dX5_feed_45 : decode cX5_feed 45 = .ok (.aload_n 0, 1) := by decide +kernel
theorem dX5_feed_46 : decode cX5_feed 46 = .ok (.getfield 36, 3) := by decide +kernel
theorem dX5_feed_49 : decode cX5_feed 49 = .ok (.getfield 66, 3) := by decide +kernel
theorem dX5_feed_52 : decode cX5_feed 52 = .ok (.ireturn, 1) := by decide +kernel
theorem dX5_line_0 : decode cX5_line 0 = .ok (.aload_n 0, 1) := by decide +kernel
theorem dX5_line_1 : decode cX5_line 1 = .ok (.getfield 24, 3) := by decide +kernel
theorem dX5_line_4 : decode cX5_line 4 = .ok (.aload_n 0, 1) := by decide +kernel
theorem dX5_line_5 : decode cX5_line 5 = .ok (.getfield 20, 3) := by decide +kernel
theorem dX5_line_8 : decode cX5_line 8 = .ok (.invokevirtual 70, 3) := by decide +kernel
theorem dX5_line_11 : decode cX5_line 11 = .ok (.aload_n 0, 1) := by decide +kernel
theorem dX5_line_12 : decode cX5_line 12 = .ok (.getfield 36, 3) := by decide +kernel
theorem dX5_line_15 : decode cX5_line 15 = .ok (.aload_n 0, 1) := by decide +kernel
theorem dX5_line_16 : decode cX5_line 16 = .ok (.getfield 24, 3) := by decide +kernel
theorem dX5_line_19 : decode cX5_line 19 = .ok (.invokevirtual 74, 3) := by decide +kernel
theorem dX5_line_22 : decode cX5_line 22 = .ok (.istore_n 1, 1) := by decide +kernel
theorem dX5_line_23 : decode cX5_line 23 = .ok (.iload_n 1, 1) := by decide +kernel
theorem dX5_line_24 : decode cX5_line 24 = .ok (.ifCond .lt 14, 3) := by decide +kernel
theorem dX5_line_27 : decode cX5_line 27 = .ok (.aload_n 0, 1) := by decide +kernel
theorem dX5_line_28 : decode cX5_line 28 = .ok (.getfield 20, 3) := by decide +kernel
theorem dX5_line_31 : decode cX5_line 31 = .ok (.aload_n 0, 1) := by decide +kernel
theorem dX5_line_32 : decode cX5_line 32 = .ok (.getfield 24, 3) := by decide +kernel
theorem dX5_line_35 : decode cX5_line 35 = .ok (.invokevirtual 70, 3) := by decide +kernel
theorem dX5_line_38 : decode cX5_line 38 = .ok (.iload_n 1, 1) := by decide +kernel
theorem dX5_line_39 : decode cX5_line 39 = .ok (.ireturn, 1) := by decide +kernel
theorem dX5_piece_0 : decode cX5_piece 0 = .ok (.aload_n 0, 1) := by decide +kernel
theorem dX5_piece_1 : decode cX5_piece 1 = .ok (.getfield 20, 3) := by decide +kernel
theorem dX5_piece_4 : decode cX5_piece 4 = .ok (.iload_n 1, 1) := by decide +kernel
theorem dX5_piece_5 : decode cX5_piece 5 = .ok (.invokevirtual 78, 3) := by decide +kernel
theorem dX5_piece_8 : decode cX5_piece 8 = .ok (.ifCond .ne 9, 3) := by decide +kernel
theorem dX5_piece_11 : decode cX5_piece 11 = .ok (.aload_n 0, 1) := by decide +kernel
theorem dX5_piece_12 : decode cX5_piece 12 = .ok (.iconst (-1), 1) := by decide +kernel
theorem dX5_piece_13 : decode cX5_piece 13 = .ok (.invokevirtual 54, 3) := by decide +kernel
theorem dX5_piece_16 : decode cX5_piece 16 = .ok (.ireturn, 1) := by decide +kernel
theorem dX5_piece_17 : decode cX5_piece 17 = .ok (.iload_n 2, 1) := by decide +kernel
theorem dX5_piece_18 : decode cX5_piece 18 = .ok (.lookupswitch 46 #[(0, 26), (1, 36)], 26) := by decide +kernel
theorem dX5_piece_44 : decode cX5_piece 44 = .ok (.aload_n 0, 1) := by decide +kernel
theorem dX5_piece_45 : decode cX5_piece 45 = .ok (.getfield 20, 3) := by decide +kernel
theorem dX5_piece_48 : decode cX5_piece 48 = .ok (.getfield 81, 3) := by decide +kernel
theorem dX5_piece_51 : decode cX5_piece 51 = .ok (.iload_n 1, 1) := by decide +kernel
theorem dX5_piece_52 : decode cX5_piece 52 = .ok (.iaload, 1) := by decide +kernel
theorem dX5_piece_53 : decode cX5_piece 53 = .ok (.ireturn, 1) := by decide +kernel
theorem dX5_piece_54 : decode cX5_piece 54 = .ok (.aload_n 0, 1) := by decide +kernel
theorem dX5_piece_55 : decode cX5_piece 55 = .ok (.getfield 20, 3) := by decide +kernel
theorem dX5_piece_58 : decode cX5_piece 58 = .ok (.getfield 84, 3) := by decide +kernel
theorem dX5_piece_61 : decode cX5_piece 61 = .ok (.iload_n 1, 1) := by decide +kernel
theorem dX5_piece_62 : decode cX5_piece 62 = .ok (.iaload, 1) := by decide +kernel
theorem dX5_piece_63 : decode cX5_piece 63 = .ok (.ireturn, 1) := by decide +kernel
theorem dX5_piece_64 : decode cX5_piece 64 = .ok (.aload_n 0, 1) := by decide +kernel
theorem dX5_piece_65 : decode cX5_piece 65 = .ok (.bipush (-2), 2) := by decide +kernel
theorem dX5_piece_67 : decode cX5_piece 67 = .ok (.invokevirtual 54, 3) := by decide +kernel
theorem dX5_piece_70 : decode cX5_piece 70 = .ok (.ireturn, 1) := by decide +kernel
theorem dX5_train_0 : decode cX5_train 0 = .ok (.aload_n 0, 1) := by decide +kernel
theorem dX5_train_1 : decode cX5_train 1 = .ok (.getfield 20, 3) := by decide +kernel
theorem dX5_train_4 : decode cX5_train 4 = .ok (.iload_n 1, 1) := by decide +kernel
theorem dX5_train_5 : decode cX5_train 5 = .ok (.invokevirtual 87, 3) := by decide +kernel
theorem dX5_train_8 : decode cX5_train 8 = .ok (.ifCond .ne 9, 3) := by decide +kernel
theorem dX5_train_11 : decode cX5_train 11 = .ok (.aload_n 0, 1) := by decide +kernel
theorem dX5_train_12 : decode cX5_train 12 = .ok (.iconst (-1), 1) := by decide +kernel
theorem dX5_train_13 : decode cX5_train 13 = .ok (.invokevirtual 54, 3) := by decide +kernel
theorem dX5_train_16 : decode cX5_train 16 = .ok (.ireturn, 1) := by decide +kernel
theorem dX5_train_17 : decode cX5_train 17 = .ok (.iload_n 2, 1) := by decide +kernel
theorem dX5_train_18 : decode cX5_train 18 = .ok (.lookupswitch 46 #[(0, 26), (1, 36)], 26) := by decide +kernel
theorem dX5_train_44 : decode cX5_train 44 = .ok (.aload_n 0, 1) := by decide +kernel
theorem dX5_train_45 : decode cX5_train 45 = .ok (.getfield 20, 3) := by decide +kernel
theorem dX5_train_48 : decode cX5_train 48 = .ok (.getfield 90, 3) := by decide +kernel
theorem dX5_train_51 : decode cX5_train 51 = .ok (.iload_n 1, 1) := by decide +kernel
theorem dX5_train_52 : decode cX5_train 52 = .ok (.iaload, 1) := by decide +kernel
theorem dX5_train_53 : decode cX5_train 53 = .ok (.ireturn, 1) := by decide +kernel
theorem dX5_train_54 : decode cX5_train 54 = .ok (.aload_n 0, 1) := by decide +kernel
theorem dX5_train_55 : decode cX5_train 55 = .ok (.getfield 20, 3) := by decide +kernel
theorem dX5_train_58 : decode cX5_train 58 = .ok (.getfield 93, 3) := by decide +kernel
theorem dX5_train_61 : decode cX5_train 61 = .ok (.iload_n 1, 1) := by decide +kernel
theorem dX5_train_62 : decode cX5_train 62 = .ok (.iaload, 1) := by decide +kernel
theorem dX5_train_63 : decode cX5_train 63 = .ok (.ireturn, 1) := by decide +kernel
theorem dX5_train_64 : decode cX5_train 64 = .ok (.aload_n 0, 1) := by decide +kernel
theorem dX5_train_65 : decode cX5_train 65 = .ok (.bipush (-2), 2) := by decide +kernel
theorem dX5_train_67 : decode cX5_train 67 = .ok (.invokevirtual 54, 3) := by decide +kernel
theorem dX5_train_70 : decode cX5_train 70 = .ok (.ireturn, 1) := by decide +kernel
theorem dX5_set_0 : decode cX5_set 0 = .ok (.iload_n 1, 1) := by decide +kernel
theorem dX5_set_1 : decode cX5_set 1 = .ok (.ifCond .lt 9, 3) := by decide +kernel
theorem dX5_set_4 : decode cX5_set 4 = .ok (.iload_n 1, 1) := by decide +kernel
theorem dX5_set_5 : decode cX5_set 5 = .ok (.bipush 9, 2) := by decide +kernel
theorem dX5_set_7 : decode cX5_set 7 = .ok (.if_icmp .lt 10, 3) := by decide +kernel
theorem dX5_set_10 : decode cX5_set 10 = .ok (.aload_n 0, 1) := by decide +kernel
theorem dX5_set_11 : decode cX5_set 11 = .ok (.bipush (-2), 2) := by decide +kernel
theorem dX5_set_13 : decode cX5_set 13 = .ok (.invokevirtual 54, 3) := by decide +kernel
theorem dX5_set_16 : decode cX5_set 16 = .ok (.ireturn, 1) := by decide +kernel
theorem dX5_set_17 : decode cX5_set 17 = .ok (.iload_n 2, 1) := by decide +kernel
theorem dX5_set_18 : decode cX5_set 18 = .ok (.getstatic 96, 3) := by decide +kernel
theorem dX5_set_21 : decode cX5_set 21 = .ok (.iload_n 1, 1) := by decide +kernel
theorem dX5_set_22 : decode cX5_set 22 = .ok (.iaload, 1) := by decide +kernel
theorem dX5_set_23 : decode cX5_set 23 = .ok (.if_icmp .ge 10, 3) := by decide +kernel
theorem dX5_set_26 : decode cX5_set 26 = .ok (.aload_n 0, 1) := by decide +kernel
theorem dX5_set_27 : decode cX5_set 27 = .ok (.bipush (-4), 2) := by decide +kernel
theorem dX5_set_29 : decode cX5_set 29 = .ok (.invokevirtual 54, 3) := by decide +kernel
theorem dX5_set_32 : decode cX5_set 32 = .ok (.ireturn, 1) := by decide +kernel
theorem dX5_set_33 : decode cX5_set 33 = .ok (.iload_n 2, 1) := by decide +kernel
theorem dX5_set_34 : decode cX5_set 34 = .ok (.getstatic 99, 3) := by decide +kernel
theorem dX5_set_37 : decode cX5_set 37 = .ok (.iload_n 1, 1) := by decide +kernel
theorem dX5_set_38 : decode cX5_set 38 = .ok (.iaload, 1) := by decide +kernel
theorem dX5_set_39 : decode cX5_set 39 = .ok (.if_icmp .le 10, 3) := by decide +kernel
theorem dX5_set_42 : decode cX5_set 42 = .ok (.aload_n 0, 1) := by decide +kernel
theorem dX5_set_43 : decode cX5_set 43 = .ok (.bipush (-6), 2) := by decide +kernel
theorem dX5_set_45 : decode cX5_set 45 = .ok (.invokevirtual 54, 3) := by decide +kernel
theorem dX5_set_48 : decode cX5_set 48 = .ok (.ireturn, 1) := by decide +kernel
theorem dX5_set_49 : decode cX5_set 49 = .ok (.aload_n 0, 1) := by decide +kernel
theorem dX5_set_50 : decode cX5_set 50 = .ok (.getfield 20, 3) := by decide +kernel
theorem dX5_set_53 : decode cX5_set 53 = .ok (.getfield 102, 3) := by decide +kernel
theorem dX5_set_56 : decode cX5_set 56 = .ok (.iload_n 1, 1) := by decide +kernel
theorem dX5_set_57 : decode cX5_set 57 = .ok (.iaload, 1) := by decide +kernel
theorem dX5_set_58 : decode cX5_set 58 = .ok (.istore_n 3, 1) := by decide +kernel
theorem dX5_set_59 : decode cX5_set 59 = .ok (.aload_n 0, 1) := by decide +kernel
theorem dX5_set_60 : decode cX5_set 60 = .ok (.getfield 20, 3) := by decide +kernel
theorem dX5_set_63 : decode cX5_set 63 = .ok (.getfield 102, 3) := by decide +kernel
theorem dX5_set_66 : decode cX5_set 66 = .ok (.iload_n 1, 1) := by decide +kernel
theorem dX5_set_67 : decode cX5_set 67 = .ok (.iload_n 2, 1) := by decide +kernel
theorem dX5_set_68 : decode cX5_set 68 = .ok (.iastore, 1) := by decide +kernel
theorem dX5_set_69 : decode cX5_set 69 = .ok (.iload_n 3, 1) := by decide +kernel
theorem dX5_set_70 : decode cX5_set 70 = .ok (.ireturn, 1) := by decide +kernel
theorem dX5_makeDouble_0 : decode cX5_makeDouble 0 = .ok (.aload_n 0, 1) := by decide +kernel
theorem dX5_makeDouble_1 : decode cX5_makeDouble 1 = .ok (.getfield 20, 3) := by decide +kernel
theorem dX5_makeDouble_4 : decode cX5_makeDouble 4 = .ok (.iload_n 1, 1) := by decide +kernel
theorem dX5_makeDouble_5 : decode cX5_makeDouble 5 = .ok (.invokevirtual 78, 3) := by decide +kernel
theorem dX5_makeDouble_8 : decode cX5_makeDouble 8 = .ok (.ifCond .ne 9, 3) := by decide +kernel
theorem dX5_makeDouble_11 : decode cX5_makeDouble 11 = .ok (.aload_n 0, 1) := by decide +kernel
theorem dX5_makeDouble_12 : decode cX5_makeDouble 12 = .ok (.iconst (-1), 1) := by decide +kernel
theorem dX5_makeDouble_13 : decode cX5_makeDouble 13 = .ok (.invokevirtual 54, 3) := by decide +kernel
theorem dX5_makeDouble_16 : decode cX5_makeDouble 16 = .ok (.ireturn, 1) := by decide +kernel
theorem dX5_makeDouble_17 : decode cX5_makeDouble 17 = .ok (.iload_n 2, 1) := by decide +kernel
theorem dX5_makeDouble_18 : decode cX5_makeDouble 18 = .ok (.ifCond .eq 7, 3) := by decide +kernel
theorem dX5_makeDouble_21 : decode cX5_makeDouble 21 = .ok (.iconst 1, 1) := by decide +kernel
theorem dX5_makeDouble_22 : decode cX5_makeDouble 22 = .ok (.goto 4, 3) := by decide +kernel
theorem dX5_makeDouble_25 : decode cX5_makeDouble 25 = .ok (.iconst 0, 1) := by decide +kernel
theorem dX5_makeDouble_26 : decode cX5_makeDouble 26 = .ok (.istore_n 3, 1) := by decide +kernel
theorem dX5_makeDouble_27 : decode cX5_makeDouble 27 = .ok (.aload_n 0, 1) := by decide +kernel
theorem dX5_makeDouble_28 : decode cX5_makeDouble 28 = .ok (.getfield 20, 3) := by decide +kernel
theorem dX5_makeDouble_31 : decode cX5_makeDouble 31 = .ok (.getfield 84, 3) := by decide +kernel
theorem dX5_makeDouble_34 : decode cX5_makeDouble 34 = .ok (.iload_n 1, 1) := by decide +kernel
theorem dX5_makeDouble_35 : decode cX5_makeDouble 35 = .ok (.iaload, 1) := by decide +kernel
theorem dX5_makeDouble_36 : decode cX5_makeDouble 36 = .ok (.iload_n 3, 1) := by decide +kernel
theorem dX5_makeDouble_37 : decode cX5_makeDouble 37 = .ok (.if_icmp .ne 5, 3) := by decide +kernel
theorem dX5_makeDouble_40 : decode cX5_makeDouble 40 = .ok (.iconst 0, 1) := by decide +kernel
theorem dX5_makeDouble_41 : decode cX5_makeDouble 41 = .ok (.ireturn, 1) := by decide +kernel
theorem dX5_makeDouble_42 : decode cX5_makeDouble 42 = .ok (.aload_n 0, 1) := by decide +kernel
theorem dX5_makeDouble_43 : decode cX5_makeDouble 43 = .ok (.getfield 20, 3) := by decide +kernel
theorem dX5_makeDouble_46 : decode cX5_makeDouble 46 = .ok (.getfield 84, 3) := by decide +kernel
theorem dX5_makeDouble_49 : decode cX5_makeDouble 49 = .ok (.iload_n 1, 1) := by decide +kernel
theorem dX5_makeDouble_50 : decode cX5_makeDouble 50 = .ok (.iload_n 3, 1) := by decide +kernel
theorem dX5_makeDouble_51 : decode cX5_makeDouble 51 = .ok (.iastore, 1) := by decide +kernel
theorem dX5_makeDouble_52 : decode cX5_makeDouble 52 = .ok (.iconst 1, 1) := by decide +kernel
theorem dX5_makeDouble_53 : decode cX5_makeDouble 53 = .ok (.ireturn, 1) := by decide +kernel
theorem dX5_order_0 : decode cX5_order 0 = .ok (.iload_n 1, 1) := by decide +kernel
theorem dX5_order_1 : decode cX5_order 1 = .ok (.ifCond .ge 10, 3) := by decide +kernel
theorem dX5_order_4 : decode cX5_order 4 = .ok (.aload_n 0, 1) := by decide +kernel
theorem dX5_order_5 : decode cX5_order 5 = .ok (.bipush (-4), 2) := by decide +kernel
theorem dX5_order_7 : decode cX5_order 7 = .ok (.invokevirtual 54, 3) := by decide +kernel
theorem dX5_order_10 : decode cX5_order 10 = .ok (.ireturn, 1) := by decide +kernel
theorem dX5_order_11 : decode cX5_order 11 = .ok (.iload_n 1, 1) := by decide +kernel
theorem dX5_order_12 : decode cX5_order 12 = .ok (.bipush 8, 2) := by decide +kernel
theorem dX5_order_14 : decode cX5_order 14 = .ok (.if_icmp .le 10, 3) := by decide +kernel
theorem dX5_order_17 : decode cX5_order 17 = .ok (.aload_n 0, 1) := by decide +kernel
theorem dX5_order_18 : decode cX5_order 18 = .ok (.bipush (-6), 2) := by decide +kernel
theorem dX5_order_20 : decode cX5_order 20 = .ok (.invokevirtual 54, 3) := by decide +kernel
theorem dX5_order_23 : decode cX5_order 23 = .ok (.ireturn, 1) := by decide +kernel
theorem dX5_order_24 : decode cX5_order 24 = .ok (.aload_n 0, 1) := by decide +kernel
theorem dX5_order_25 : decode cX5_order 25 = .ok (.getfield 20, 3) := by decide +kernel
theorem dX5_order_28 : decode cX5_order 28 = .ok (.iload_n 1, 1) := by decide +kernel
theorem dX5_order_29 : decode cX5_order 29 = .ok (.iload_n 2, 1) := by decide +kernel
theorem dX5_order_30 : decode cX5_order 30 = .ok (.invokevirtual 105, 3) := by decide +kernel
theorem dX5_order_33 : decode cX5_order 33 = .ok (.ifCond .ne 9, 3) := by decide +kernel
theorem dX5_order_36 : decode cX5_order 36 = .ok (.aload_n 0, 1) := by decide +kernel
theorem dX5_order_37 : decode cX5_order 37 = .ok (.iconst (-1), 1) := by decide +kernel
theorem dX5_order_38 : decode cX5_order 38 = .ok (.invokevirtual 54, 3) := by decide +kernel
theorem dX5_order_41 : decode cX5_order 41 = .ok (.ireturn, 1) := by decide +kernel
theorem dX5_order_42 : decode cX5_order 42 = .ok (.aload_n 0, 1) := by decide +kernel
theorem dX5_order_43 : decode cX5_order 43 = .ok (.getfield 20, 3) := by decide +kernel
theorem dX5_order_46 : decode cX5_order 46 = .ok (.getfield 109, 3) := by decide +kernel
theorem dX5_order_49 : decode cX5_order 49 = .ok (.istore_n 3, 1) := by decide +kernel
theorem dX5_order_50 : decode cX5_order 50 = .ok (.aload_n 0, 1) := by decide +kernel
theorem dX5_order_51 : decode cX5_order 51 = .ok (.getfield 20, 3) := by decide +kernel
theorem dX5_order_54 : decode cX5_order 54 = .ok (.iload_n 1, 1) := by decide +kernel
theorem dX5_order_55 : decode cX5_order 55 = .ok (.iload_n 2, 1) := by decide +kernel
theorem dX5_order_56 : decode cX5_order 56 = .ok (.invokevirtual 112, 3) := by decide +kernel
theorem dX5_order_59 : decode cX5_order 59 = .ok (.iload_n 3, 1) := by decide +kernel
theorem dX5_order_60 : decode cX5_order 60 = .ok (.ireturn, 1) := by decide +kernel
theorem dX5_climbs_0 : decode cX5_climbs 0 = .ok (.aload_n 0, 1) := by decide +kernel
theorem dX5_climbs_1 : decode cX5_climbs 1 = .ok (.getfield 20, 3) := by decide +kernel
theorem dX5_climbs_4 : decode cX5_climbs 4 = .ok (.iload_n 1, 1) := by decide +kernel
theorem dX5_climbs_5 : decode cX5_climbs 5 = .ok (.invokevirtual 87, 3) := by decide +kernel
theorem dX5_climbs_8 : decode cX5_climbs 8 = .ok (.ifCond .eq 22, 3) := by decide +kernel
theorem dX5_climbs_11 : decode cX5_climbs 11 = .ok (.aload_n 0, 1) := by decide +kernel
theorem dX5_climbs_12 : decode cX5_climbs 12 = .ok (.getfield 20, 3) := by decide +kernel
theorem dX5_climbs_15 : decode cX5_climbs 15 = .ok (.aload_n 0, 1) := by decide +kernel
theorem dX5_climbs_16 : decode cX5_climbs 16 = .ok (.getfield 20, 3) := by decide +kernel
theorem dX5_climbs_19 : decode cX5_climbs 19 = .ok (.getfield 93, 3) := by decide +kernel
theorem dX5_climbs_22 : decode cX5_climbs 22 = .ok (.iload_n 1, 1) := by decide +kernel
theorem dX5_climbs_23 : decode cX5_climbs 23 = .ok (.iaload, 1) := by decide +kernel
theorem dX5_climbs_24 : decode cX5_climbs 24 = .ok (.invokevirtual 116, 3) := by decide +kernel
theorem dX5_climbs_27 : decode cX5_climbs 27 = .ok (.goto 8, 3) := by decide +kernel
theorem dX5_climbs_30 : decode cX5_climbs 30 = .ok (.aload_n 0, 1) := by decide +kernel
theorem dX5_climbs_31 : decode cX5_climbs 31 = .ok (.iconst (-1), 1) := by decide +kernel
theorem dX5_climbs_32 : decode cX5_climbs 32 = .ok (.invokevirtual 54, 3) := by decide +kernel
theorem dX5_climbs_35 : decode cX5_climbs 35 = .ok (.ireturn, 1) := by decide +kernel
theorem dX5_takes_0 : decode cX5_takes 0 = .ok (.aload_n 0, 1) := by decide +kernel
theorem dX5_takes_1 : decode cX5_takes 1 = .ok (.getfield 20, 3) := by decide +kernel
theorem dX5_takes_4 : decode cX5_takes 4 = .ok (.iload_n 1, 1) := by decide +kernel
theorem dX5_takes_5 : decode cX5_takes 5 = .ok (.invokevirtual 87, 3) := by decide +kernel
theorem dX5_takes_8 : decode cX5_takes 8 = .ok (.ifCond .ne 9, 3) := by decide +kernel
theorem dX5_takes_11 : decode cX5_takes 11 = .ok (.aload_n 0, 1) := by decide +kernel
theorem dX5_takes_12 : decode cX5_takes 12 = .ok (.iconst (-1), 1) := by decide +kernel
theorem dX5_takes_13 : decode cX5_takes 13 = .ok (.invokevirtual 54, 3) := by decide +kernel
theorem dX5_takes_16 : decode cX5_takes 16 = .ok (.ireturn, 1) := by decide +kernel
theorem dX5_takes_17 : decode cX5_takes 17 = .ok (.aload_n 0, 1) := by decide +kernel
theorem dX5_takes_18 : decode cX5_takes 18 = .ok (.getfield 20, 3) := by decide +kernel
theorem dX5_takes_21 : decode cX5_takes 21 = .ok (.aload_n 0, 1) := by decide +kernel
theorem dX5_takes_22 : decode cX5_takes 22 = .ok (.getfield 20, 3) := by decide +kernel
theorem dX5_takes_25 : decode cX5_takes 25 = .ok (.aload_n 0, 1) := by decide +kernel
theorem dX5_takes_26 : decode cX5_takes 26 = .ok (.getfield 20, 3) := by decide +kernel
theorem dX5_takes_29 : decode cX5_takes 29 = .ok (.getfield 93, 3) := by decide +kernel
theorem dX5_takes_32 : decode cX5_takes 32 = .ok (.iload_n 1, 1) := by decide +kernel
theorem dX5_takes_33 : decode cX5_takes 33 = .ok (.iaload, 1) := by decide +kernel
theorem dX5_takes_34 : decode cX5_takes 34 = .ok (.invokevirtual 116, 3) := by decide +kernel
theorem dX5_takes_37 : decode cX5_takes 37 = .ok (.invokevirtual 119, 3) := by decide +kernel
theorem dX5_takes_40 : decode cX5_takes 40 = .ok (.ireturn, 1) := by decide +kernel
theorem dX5_base_0 : decode cX5_base 0 = .ok (.aload_n 0, 1) := by decide +kernel
theorem dX5_base_1 : decode cX5_base 1 = .ok (.getfield 20, 3) := by decide +kernel
theorem dX5_base_4 : decode cX5_base 4 = .ok (.invokevirtual 122, 3) := by decide +kernel
theorem dX5_base_7 : decode cX5_base 7 = .ok (.ireturn, 1) := by decide +kernel
theorem dX5_waited_0 : decode cX5_waited 0 = .ok (.aload_n 0, 1) := by decide +kernel
theorem dX5_waited_1 : decode cX5_waited 1 = .ok (.getfield 20, 3) := by decide +kernel
theorem dX5_waited_4 : decode cX5_waited 4 = .ok (.iload_n 1, 1) := by decide +kernel
theorem dX5_waited_5 : decode cX5_waited 5 = .ok (.invokevirtual 87, 3) := by decide +kernel
theorem dX5_waited_8 : decode cX5_waited 8 = .ok (.ifCond .ne 9, 3) := by decide +kernel
theorem dX5_waited_11 : decode cX5_waited 11 = .ok (.aload_n 0, 1) := by decide +kernel
theorem dX5_waited_12 : decode cX5_waited 12 = .ok (.iconst (-1), 1) := by decide +kernel
theorem dX5_waited_13 : decode cX5_waited 13 = .ok (.invokevirtual 54, 3) := by decide +kernel
theorem dX5_waited_16 : decode cX5_waited 16 = .ok (.ireturn, 1) := by decide +kernel
theorem dX5_waited_17 : decode cX5_waited 17 = .ok (.aload_n 0, 1) := by decide +kernel
theorem dX5_waited_18 : decode cX5_waited 18 = .ok (.getfield 10, 3) := by decide +kernel
theorem dX5_waited_21 : decode cX5_waited 21 = .ok (.invokevirtual 126, 3) := by decide +kernel
theorem dX5_waited_24 : decode cX5_waited 24 = .ok (.aload_n 0, 1) := by decide +kernel
theorem dX5_waited_25 : decode cX5_waited 25 = .ok (.getfield 10, 3) := by decide +kernel
theorem dX5_waited_28 : decode cX5_waited 28 = .ok (.getfield 129, 3) := by decide +kernel
theorem dX5_waited_31 : decode cX5_waited 31 = .ok (.iload_n 1, 1) := by decide +kernel
theorem dX5_waited_32 : decode cX5_waited 32 = .ok (.iaload, 1) := by decide +kernel
theorem dX5_waited_33 : decode cX5_waited 33 = .ok (.istore_n 2, 1) := by decide +kernel
theorem dX5_waited_34 : decode cX5_waited 34 = .ok (.iload_n 2, 1) := by decide +kernel
theorem dX5_waited_35 : decode cX5_waited 35 = .ok (.bipush (-9), 2) := by decide +kernel
theorem dX5_waited_37 : decode cX5_waited 37 = .ok (.if_icmp .ne 8, 3) := by decide +kernel
theorem dX5_waited_40 : decode cX5_waited 40 = .ok (.bipush (-9), 2) := by decide +kernel
theorem dX5_waited_42 : decode cX5_waited 42 = .ok (.goto 14, 3) := by decide +kernel
theorem dX5_waited_45 : decode cX5_waited 45 = .ok (.iload_n 2, 1) := by decide +kernel
theorem dX5_waited_46 : decode cX5_waited 46 = .ok (.aload_n 0, 1) := by decide +kernel
theorem dX5_waited_47 : decode cX5_waited 47 = .ok (.getfield 20, 3) := by decide +kernel
theorem dX5_waited_50 : decode cX5_waited 50 = .ok (.getfield 90, 3) := by decide +kernel
theorem dX5_waited_53 : decode cX5_waited 53 = .ok (.iload_n 1, 1) := by decide +kernel
theorem dX5_waited_54 : decode cX5_waited 54 = .ok (.iaload, 1) := by decide +kernel
theorem dX5_waited_55 : decode cX5_waited 55 = .ok (.isub, 1) := by decide +kernel
theorem dX5_waited_56 : decode cX5_waited 56 = .ok (.ireturn, 1) := by decide +kernel
theorem dX5_began_0 : decode cX5_began 0 = .ok (.aload_n 0, 1) := by decide +kernel
theorem dX5_began_1 : decode cX5_began 1 = .ok (.getfield 20, 3) := by decide +kernel
theorem dX5_began_4 : decode cX5_began 4 = .ok (.iload_n 1, 1) := by decide +kernel
theorem dX5_began_5 : decode cX5_began 5 = .ok (.invokevirtual 87, 3) := by decide +kernel
theorem dX5_began_8 : decode cX5_began 8 = .ok (.ifCond .ne 9, 3) := by decide +kernel
theorem dX5_began_11 : decode cX5_began 11 = .ok (.aload_n 0, 1) := by decide +kernel
theorem dX5_began_12 : decode cX5_began 12 = .ok (.iconst (-1), 1) := by decide +kernel
theorem dX5_began_13 : decode cX5_began 13 = .ok (.invokevirtual 54, 3) := by decide +kernel
theorem dX5_began_16 : decode cX5_began 16 = .ok (.ireturn, 1) := by decide +kernel
theorem dX5_began_17 : decode cX5_began 17 = .ok (.aload_n 0, 1) := by decide +kernel
theorem dX5_began_18 : decode cX5_began 18 = .ok (.getfield 10, 3) := by decide +kernel
theorem dX5_began_21 : decode cX5_began 21 = .ok (.invokevirtual 126, 3) := by decide +kernel
theorem dX5_began_24 : decode cX5_began 24 = .ok (.aload_n 0, 1) := by decide +kernel
theorem dX5_began_25 : decode cX5_began 25 = .ok (.getfield 10, 3) := by decide +kernel
theorem dX5_began_28 : decode cX5_began 28 = .ok (.getfield 129, 3) := by decide +kernel
theorem dX5_began_31 : decode cX5_began 31 = .ok (.iload_n 1, 1) := by decide +kernel
theorem dX5_began_32 : decode cX5_began 32 = .ok (.iaload, 1) := by decide +kernel
theorem dX5_began_33 : decode cX5_began 33 = .ok (.ireturn, 1) := by decide +kernel
theorem dX5_allWaited_0 : decode cX5_allWaited 0 = .ok (.aload_n 0, 1) := by decide +kernel
theorem dX5_allWaited_1 : decode cX5_allWaited 1 = .ok (.getfield 10, 3) := by decide +kernel
theorem dX5_allWaited_4 : decode cX5_allWaited 4 = .ok (.invokevirtual 126, 3) := by decide +kernel
theorem dX5_allWaited_7 : decode cX5_allWaited 7 = .ok (.aload_n 0, 1) := by decide +kernel
theorem dX5_allWaited_8 : decode cX5_allWaited 8 = .ok (.getfield 10, 3) := by decide +kernel
theorem dX5_allWaited_11 : decode cX5_allWaited 11 = .ok (.invokevirtual 132, 3) := by decide +kernel
theorem dX5_allWaited_14 : decode cX5_allWaited 14 = .ok (.ireturn, 1) := by decide +kernel
theorem dX5_downs_0 : decode cX5_downs 0 = .ok (.aload_n 0, 1) := by decide +kernel
theorem dX5_downs_1 : decode cX5_downs 1 = .ok (.getfield 10, 3) := by decide +kernel
theorem dX5_downs_4 : decode cX5_downs 4 = .ok (.invokevirtual 126, 3) := by decide +kernel
theorem dX5_downs_7 : decode cX5_downs 7 = .ok (.aload_n 0, 1) := by decide +kernel
theorem dX5_downs_8 : decode cX5_downs 8 = .ok (.getfield 10, 3) := by decide +kernel
theorem dX5_downs_11 : decode cX5_downs 11 = .ok (.getfield 135, 3) := by decide +kernel
theorem dX5_downs_14 : decode cX5_downs 14 = .ok (.ireturn, 1) := by decide +kernel
theorem dX5_best_0 : decode cX5_best 0 = .ok (.iload_n 1, 1) := by decide +kernel
theorem dX5_best_1 : decode cX5_best 1 = .ok (.iconst (-1), 1) := by decide +kernel
theorem dX5_best_2 : decode cX5_best 2 = .ok (.if_icmp .ge 10, 3) := by decide +kernel
theorem dX5_best_5 : decode cX5_best 5 = .ok (.aload_n 0, 1) := by decide +kernel
theorem dX5_best_6 : decode cX5_best 6 = .ok (.bipush (-4), 2) := by decide +kernel
theorem dX5_best_8 : decode cX5_best 8 = .ok (.invokevirtual 54, 3) := by decide +kernel
theorem dX5_best_11 : decode cX5_best 11 = .ok (.ireturn, 1) := by decide +kernel
theorem dX5_best_12 : decode cX5_best 12 = .ok (.aload_n 0, 1) := by decide +kernel
theorem dX5_best_13 : decode cX5_best 13 = .ok (.getfield 20, 3) := by decide +kernel
theorem dX5_best_16 : decode cX5_best 16 = .ok (.getfield 138, 3) := by decide +kernel
theorem dX5_best_19 : decode cX5_best 19 = .ok (.iconst 5, 1) := by decide +kernel
theorem dX5_best_20 : decode cX5_best 20 = .ok (.if_icmp .le 10, 3) := by decide +kernel
theorem dX5_best_23 : decode cX5_best 23 = .ok (.aload_n 0, 1) := by decide +kernel
theorem dX5_best_24 : decode cX5_best 24 = .ok (.bipush (-6), 2) := by decide +kernel
theorem dX5_best_26 : decode cX5_best 26 = .ok (.invokevirtual 54, 3) := by decide +kernel
theorem dX5_best_29 : decode cX5_best 29 = .ok (.ireturn, 1) := by decide +kernel
theorem dX5_best_30 : decode cX5_best 30 = .ok (.iload_n 1, 1) := by decide +kernel
theorem dX5_best_31 : decode cX5_best 31 = .ok (.aload_n 0, 1) := by decide +kernel
theorem dX5_best_32 : decode cX5_best 32 = .ok (.getfield 20, 3) := by decide +kernel
theorem dX5_best_35 : decode cX5_best 35 = .ok (.getfield 138, 3) := by decide +kernel
theorem dX5_best_38 : decode cX5_best 38 = .ok (.if_icmp .lt 6, 3) := by decide +kernel
theorem dX5_best_41 : decode cX5_best 41 = .ok (.bipush (-9), 2) := by decide +kernel
theorem dX5_best_43 : decode cX5_best 43 = .ok (.ireturn, 1) := by decide +kernel
theorem dX5_best_44 : decode cX5_best 44 = .ok (.aload_n 0, 1) := by decide +kernel
theorem dX5_best_45 : decode cX5_best 45 = .ok (.invokevirtual 141, 3) := by decide +kernel
theorem dX5_best_48 : decode cX5_best 48 = .ok (.istore_n 2, 1) := by decide +kernel
theorem dX5_best_49 : decode cX5_best 49 = .ok (.iload_n 1, 1) := by decide +kernel
theorem dX5_best_50 : decode cX5_best 50 = .ok (.ifCond .ge 7, 3) := by decide +kernel
theorem dX5_best_53 : decode cX5_best 53 = .ok (.iload_n 2, 1) := by decide +kernel
theorem dX5_best_54 : decode cX5_best 54 = .ok (.goto 9, 3) := by decide +kernel
theorem dX5_best_57 : decode cX5_best 57 = .ok (.aload_n 0, 1) := by decide +kernel
theorem dX5_best_58 : decode cX5_best 58 = .ok (.getfield 47, 3) := by decide +kernel
theorem dX5_best_61 : decode cX5_best 61 = .ok (.iload_n 1, 1) := by decide +kernel
theorem dX5_best_62 : decode cX5_best 62 = .ok (.iaload, 1) := by decide +kernel
theorem dX5_best_63 : decode cX5_best 63 = .ok (.ireturn, 1) := by decide +kernel
theorem dX5_fewest_0 : decode cX5_fewest 0 = .ok (.iload_n 1, 1) := by decide +kernel
theorem dX5_fewest_1 : decode cX5_fewest 1 = .ok (.ifCond .ge 10, 3) := by decide +kernel
theorem dX5_fewest_4 : decode cX5_fewest 4 = .ok (.aload_n 0, 1) := by decide +kernel
theorem dX5_fewest_5 : decode cX5_fewest 5 = .ok (.bipush (-4), 2) := by decide +kernel
theorem dX5_fewest_7 : decode cX5_fewest 7 = .ok (.invokevirtual 54, 3) := by decide +kernel
theorem dX5_fewest_10 : decode cX5_fewest 10 = .ok (.ireturn, 1) := by decide +kernel
theorem dX5_fewest_11 : decode cX5_fewest 11 = .ok (.aload_n 0, 1) := by decide +kernel
theorem dX5_fewest_12 : decode cX5_fewest 12 = .ok (.getfield 24, 3) := by decide +kernel
theorem dX5_fewest_15 : decode cX5_fewest 15 = .ok (.aload_n 0, 1) := by decide +kernel
theorem dX5_fewest_16 : decode cX5_fewest 16 = .ok (.getfield 20, 3) := by decide +kernel
theorem dX5_fewest_19 : decode cX5_fewest 19 = .ok (.invokevirtual 70, 3) := by decide +kernel
theorem dX5_fewest_22 : decode cX5_fewest 22 = .ok (.iconst 0, 1) := by decide +kernel
theorem dX5_fewest_23 : decode cX5_fewest 23 = .ok (.istore_n 2, 1) := by decide +kernel
theorem dX5_fewest_24 : decode cX5_fewest 24 = .ok (.iload_n 2, 1) := by decide +kernel
theorem dX5_fewest_25 : decode cX5_fewest 25 = .ok (.iconst 4, 1) := by decide +kernel
theorem dX5_fewest_26 : decode cX5_fewest 26 = .ok (.if_icmp .gt 27, 3) := by decide +kernel
theorem dX5_fewest_29 : decode cX5_fewest 29 = .ok (.aload_n 0, 1) := by decide +kernel
theorem dX5_fewest_30 : decode cX5_fewest 30 = .ok (.getfield 24, 3) := by decide +kernel
theorem dX5_fewest_33 : decode cX5_fewest 33 = .ok (.iload_n 2, 1) := by decide +kernel
theorem dX5_fewest_34 : decode cX5_fewest 34 = .ok (.putfield 144, 3) := by decide +kernel
theorem dX5_fewest_37 : decode cX5_fewest 37 = .ok (.aload_n 0, 1) := by decide +kernel
theorem dX5_fewest_38 : decode cX5_fewest 38 = .ok (.invokevirtual 147, 3) := by decide +kernel
theorem dX5_fewest_41 : decode cX5_fewest 41 = .ok (.iload_n 1, 1) := by decide +kernel
theorem dX5_fewest_42 : decode cX5_fewest 42 = .ok (.if_icmp .gt 5, 3) := by decide +kernel
theorem dX5_fewest_45 : decode cX5_fewest 45 = .ok (.iload_n 2, 1) := by decide +kernel
theorem dX5_fewest_46 : decode cX5_fewest 46 = .ok (.ireturn, 1) := by decide +kernel
theorem dX5_fewest_47 : decode cX5_fewest 47 = .ok (.iinc 2 1, 3) := by decide +kernel
theorem dX5_fewest_50 : decode cX5_fewest 50 = .ok (.goto (-26), 3) := by decide +kernel
theorem dX5_fewest_53 : decode cX5_fewest 53 = .ok (.bipush (-9), 2) := by decide +kernel
theorem dX5_fewest_55 : decode cX5_fewest 55 = .ok (.ireturn, 1) := by decide +kernel
theorem dX5_which_0 : decode cX5_which 0 = .ok (.aload_n 0, 1) := by decide +kernel
theorem dX5_which_1 : decode cX5_which 1 = .ok (.getfield 24, 3) := by decide +kernel
theorem dX5_which_4 : decode cX5_which 4 = .ok (.aload_n 0, 1) := by decide +kernel
theorem dX5_which_5 : decode cX5_which 5 = .ok (.getfield 20, 3) := by decide +kernel
theorem dX5_which_8 : decode cX5_which 8 = .ok (.invokevirtual 70, 3) := by decide +kernel
theorem dX5_which_11 : decode cX5_which 11 = .ok (.aload_n 0, 1) := by decide +kernel
theorem dX5_which_12 : decode cX5_which 12 = .ok (.invokevirtual 147, 3) := by decide +kernel
theorem dX5_which_15 : decode cX5_which 15 = .ok (.istore_n 1, 1) := by decide +kernel
theorem dX5_which_16 : decode cX5_which 16 = .ok (.bipush (-9), 2) := by decide +kernel
theorem dX5_which_18 : decode cX5_which 18 = .ok (.istore_n 2, 1) := by decide +kernel
theorem dX5_which_19 : decode cX5_which 19 = .ok (.iconst 0, 1) := by decide +kernel
theorem dX5_which_20 : decode cX5_which 20 = .ok (.istore_n 3, 1) := by decide +kernel
theorem dX5_which_21 : decode cX5_which 21 = .ok (.iload_n 3, 1) := by decide +kernel
theorem dX5_which_22 : decode cX5_which 22 = .ok (.aload_n 0, 1) := by decide +kernel
theorem dX5_which_23 : decode cX5_which 23 = .ok (.getfield 20, 3) := by decide +kernel
theorem dX5_which_26 : decode cX5_which 26 = .ok (.getfield 150, 3) := by decide +kernel
theorem dX5_which_29 : decode cX5_which 29 = .ok (.if_icmp .ge 58, 3) := by decide +kernel
theorem dX5_which_32 : decode cX5_which 32 = .ok (.aload_n 0, 1) := by decide +kernel
theorem dX5_which_33 : decode cX5_which 33 = .ok (.getfield 20, 3) := by decide +kernel
theorem dX5_which_36 : decode cX5_which 36 = .ok (.getfield 84, 3) := by decide +kernel
theorem dX5_which_39 : decode cX5_which 39 = .ok (.iload_n 3, 1) := by decide +kernel
theorem dX5_which_40 : decode cX5_which 40 = .ok (.iaload, 1) := by decide +kernel
theorem dX5_which_41 : decode cX5_which 41 = .ok (.ifCond .ne 40, 3) := by decide +kernel
theorem dX5_which_44 : decode cX5_which 44 = .ok (.aload_n 0, 1) := by decide +kernel
theorem dX5_which_45 : decode cX5_which 45 = .ok (.getfield 24, 3) := by decide +kernel
theorem dX5_which_48 : decode cX5_which 48 = .ok (.getfield 84, 3) := by decide +kernel
theorem dX5_which_51 : decode cX5_which 51 = .ok (.iload_n 3, 1) := by decide +kernel
theorem dX5_which_52 : decode cX5_which 52 = .ok (.iconst 1, 1) := by decide +kernel
theorem dX5_which_53 : decode cX5_which 53 = .ok (.iastore, 1) := by decide +kernel
theorem dX5_which_54 : decode cX5_which 54 = .ok (.aload_n 0, 1) := by decide +kernel
theorem dX5_which_55 : decode cX5_which 55 = .ok (.invokevirtual 147, 3) := by decide +kernel
theorem dX5_which_58 : decode cX5_which 58 = .ok (.istore 4, 2) := by decide +kernel
theorem dX5_which_60 : decode cX5_which 60 = .ok (.aload_n 0, 1) := by decide +kernel
theorem dX5_which_61 : decode cX5_which 61 = .ok (.getfield 24, 3) := by decide +kernel
theorem dX5_which_64 : decode cX5_which 64 = .ok (.getfield 84, 3) := by decide +kernel
theorem dX5_which_67 : decode cX5_which 67 = .ok (.iload_n 3, 1) := by decide +kernel
theorem dX5_which_68 : decode cX5_which 68 = .ok (.iconst 0, 1) := by decide +kernel
theorem dX5_which_69 : decode cX5_which 69 = .ok (.iastore, 1) := by decide +kernel
theorem dX5_which_70 : decode cX5_which 70 = .ok (.iload 4, 2) := by decide +kernel
theorem dX5_which_72 : decode cX5_which 72 = .ok (.iload_n 1, 1) := by decide +kernel
theorem dX5_which_73 : decode cX5_which 73 = .ok (.if_icmp .ge 8, 3) := by decide +kernel
theorem dX5_which_76 : decode cX5_which 76 = .ok (.iload 4, 2) := by decide +kernel
theorem dX5_which_78 : decode cX5_which 78 = .ok (.istore_n 1, 1) := by decide +kernel
theorem dX5_which_79 : decode cX5_which 79 = .ok (.iload_n 3, 1) := by decide +kernel
theorem dX5_which_80 : decode cX5_which 80 = .ok (.istore_n 2, 1) := by decide +kernel
theorem dX5_which_81 : decode cX5_which 81 = .ok (.iinc 3 1, 3) := by decide +kernel
theorem dX5_which_84 : decode cX5_which 84 = .ok (.goto (-63), 3) := by decide +kernel
theorem dX5_which_87 : decode cX5_which 87 = .ok (.iload_n 2, 1) := by decide +kernel
theorem dX5_which_88 : decode cX5_which 88 = .ok (.ireturn, 1) := by decide +kernel
theorem dX5_edge_0 : decode cX5_edge 0 = .ok (.iload_n 1, 1) := by decide +kernel
theorem dX5_edge_1 : decode cX5_edge 1 = .ok (.ifCond .lt 8, 3) := by decide +kernel
theorem dX5_edge_4 : decode cX5_edge 4 = .ok (.iload_n 1, 1) := by decide +kernel
theorem dX5_edge_5 : decode cX5_edge 5 = .ok (.iconst 2, 1) := by decide +kernel
theorem dX5_edge_6 : decode cX5_edge 6 = .ok (.if_icmp .le 10, 3) := by decide +kernel
theorem dX5_edge_9 : decode cX5_edge 9 = .ok (.aload_n 0, 1) := by decide +kernel
theorem dX5_edge_10 : decode cX5_edge 10 = .ok (.bipush (-2), 2) := by decide +kernel
theorem dX5_edge_12 : decode cX5_edge 12 = .ok (.invokevirtual 54, 3) := by decide +kernel
theorem dX5_edge_15 : decode cX5_edge 15 = .ok (.ireturn, 1) := by decide +kernel
theorem dX5_edge_16 : decode cX5_edge 16 = .ok (.sipush 999, 3) := by decide +kernel
theorem dX5_edge_19 : decode cX5_edge 19 = .ok (.istore_n 2, 1) := by decide +kernel
theorem dX5_edge_20 : decode cX5_edge 20 = .ok (.iload_n 2, 1) := by decide +kernel
theorem dX5_edge_21 : decode cX5_edge 21 = .ok (.iconst 1, 1) := by decide +kernel
theorem dX5_edge_22 : decode cX5_edge 22 = .ok (.if_icmp .lt 23, 3) := by decide +kernel
theorem dX5_edge_25 : decode cX5_edge 25 = .ok (.aload_n 0, 1) := by decide +kernel
theorem dX5_edge_26 : decode cX5_edge 26 = .ok (.getfield 20, 3) := by decide +kernel
theorem dX5_edge_29 : decode cX5_edge 29 = .ok (.iload_n 2, 1) := by decide +kernel
theorem dX5_edge_30 : decode cX5_edge 30 = .ok (.invokevirtual 116, 3) := by decide +kernel
theorem dX5_edge_33 : decode cX5_edge 33 = .ok (.iload_n 1, 1) := by decide +kernel
theorem dX5_edge_34 : decode cX5_edge 34 = .ok (.if_icmp .ne 5, 3) := by decide +kernel
theorem dX5_edge_37 : decode cX5_edge 37 = .ok (.iload_n 2, 1) := by decide +kernel
theorem dX5_edge_38 : decode cX5_edge 38 = .ok (.ireturn, 1) := by decide +kernel
theorem dX5_edge_39 : decode cX5_edge 39 = .ok (.iinc 2 (-1), 3) := by decide +kernel
theorem dX5_edge_42 : decode cX5_edge 42 = .ok (.goto (-22), 3) := by decide +kernel
theorem dX5_edge_45 : decode cX5_edge 45 = .ok (.bipush (-9), 2) := by decide +kernel
theorem dX5_edge_47 : decode cX5_edge 47 = .ok (.ireturn, 1) := by decide +kernel
theorem dX5_chance_0 : decode cX5_chance 0 = .ok (.iload_n 1, 1) := by decide +kernel
theorem dX5_chance_1 : decode cX5_chance 1 = .ok (.ifCond .ge 10, 3) := by decide +kernel
theorem dX5_chance_4 : decode cX5_chance 4 = .ok (.aload_n 0, 1) := by decide +kernel
theorem dX5_chance_5 : decode cX5_chance 5 = .ok (.bipush (-4), 2) := by decide +kernel
theorem dX5_chance_7 : decode cX5_chance 7 = .ok (.invokevirtual 54, 3) := by decide +kernel
theorem dX5_chance_10 : decode cX5_chance 10 = .ok (.ireturn, 1) := by decide +kernel
theorem dX5_chance_11 : decode cX5_chance 11 = .ok (.iload_n 1, 1) := by decide +kernel
theorem dX5_chance_12 : decode cX5_chance 12 = .ok (.bipush 100, 2) := by decide +kernel
theorem dX5_chance_14 : decode cX5_chance 14 = .ok (.if_icmp .le 10, 3) := by decide +kernel
theorem dX5_chance_17 : decode cX5_chance 17 = .ok (.aload_n 0, 1) := by decide +kernel
theorem dX5_chance_18 : decode cX5_chance 18 = .ok (.bipush (-6), 2) := by decide +kernel
theorem dX5_chance_20 : decode cX5_chance 20 = .ok (.invokevirtual 54, 3) := by decide +kernel
theorem dX5_chance_23 : decode cX5_chance 23 = .ok (.ireturn, 1) := by decide +kernel
theorem dX5_chance_24 : decode cX5_chance 24 = .ok (.aload_n 0, 1) := by decide +kernel
theorem dX5_chance_25 : decode cX5_chance 25 = .ok (.getfield 24, 3) := by decide +kernel
theorem dX5_chance_28 : decode cX5_chance 28 = .ok (.aload_n 0, 1) := by decide +kernel
theorem dX5_chance_29 : decode cX5_chance 29 = .ok (.getfield 20, 3) := by decide +kernel
theorem dX5_chance_32 : decode cX5_chance 32 = .ok (.invokevirtual 70, 3) := by decide +kernel
theorem dX5_chance_35 : decode cX5_chance 35 = .ok (.aload_n 0, 1) := by decide +kernel
theorem dX5_chance_36 : decode cX5_chance 36 = .ok (.getfield 24, 3) := by decide +kernel
theorem dX5_chance_39 : decode cX5_chance 39 = .ok (.getfield 102, 3) := by decide +kernel
theorem dX5_chance_42 : decode cX5_chance 42 = .ok (.bipush 6, 2) := by decide +kernel
theorem dX5_chance_44 : decode cX5_chance 44 = .ok (.iconst 1, 1) := by decide +kernel
theorem dX5_chance_45 : decode cX5_chance 45 = .ok (.iastore, 1) := by decide +kernel
theorem dX5_chance_46 : decode cX5_chance 46 = .ok (.aload_n 0, 1) := by decide +kernel
theorem dX5_chance_47 : decode cX5_chance 47 = .ok (.invokevirtual 147, 3) := by decide +kernel
theorem dX5_chance_50 : decode cX5_chance 50 = .ok (.istore_n 2, 1) := by decide +kernel
theorem dX5_chance_51 : decode cX5_chance 51 = .ok (.aload_n 0, 1) := by decide +kernel
theorem dX5_chance_52 : decode cX5_chance 52 = .ok (.getfield 24, 3) := by decide +kernel
theorem dX5_chance_55 : decode cX5_chance 55 = .ok (.getfield 102, 3) := by decide +kernel
theorem dX5_chance_58 : decode cX5_chance 58 = .ok (.bipush 6, 2) := by decide +kernel
theorem dX5_chance_60 : decode cX5_chance 60 = .ok (.iconst 0, 1) := by decide +kernel
theorem dX5_chance_61 : decode cX5_chance 61 = .ok (.iastore, 1) := by decide +kernel
theorem dX5_chance_62 : decode cX5_chance 62 = .ok (.aload_n 0, 1) := by decide +kernel
theorem dX5_chance_63 : decode cX5_chance 63 = .ok (.invokevirtual 147, 3) := by decide +kernel
theorem dX5_chance_66 : decode cX5_chance 66 = .ok (.istore_n 3, 1) := by decide +kernel
theorem dX5_chance_67 : decode cX5_chance 67 = .ok (.iload_n 1, 1) := by decide +kernel
theorem dX5_chance_68 : decode cX5_chance 68 = .ok (.iload_n 2, 1) := by decide +kernel
theorem dX5_chance_69 : decode cX5_chance 69 = .ok (.imul, 1) := by decide +kernel
theorem dX5_chance_70 : decode cX5_chance 70 = .ok (.bipush 100, 2) := by decide +kernel
theorem dX5_chance_72 : decode cX5_chance 72 = .ok (.iload_n 1, 1) := by decide +kernel
theorem dX5_chance_73 : decode cX5_chance 73 = .ok (.isub, 1) := by decide +kernel
theorem dX5_chance_74 : decode cX5_chance 74 = .ok (.iload_n 3, 1) := by decide +kernel
theorem dX5_chance_75 : decode cX5_chance 75 = .ok (.imul, 1) := by decide +kernel
theorem dX5_chance_76 : decode cX5_chance 76 = .ok (.iadd, 1) := by decide +kernel
theorem dX5_chance_77 : decode cX5_chance 77 = .ok (.ireturn, 1) := by decide +kernel
theorem dX5_heaviest_0 : decode cX5_heaviest 0 = .ok (.aload_n 0, 1) := by decide +kernel
theorem dX5_heaviest_1 : decode cX5_heaviest 1 = .ok (.getfield 10, 3) := by decide +kernel
theorem dX5_heaviest_4 : decode cX5_heaviest 4 = .ok (.invokevirtual 126, 3) := by decide +kernel
theorem dX5_heaviest_7 : decode cX5_heaviest 7 = .ok (.aload_n 0, 1) := by decide +kernel
theorem dX5_heaviest_8 : decode cX5_heaviest 8 = .ok (.getfield 10, 3) := by decide +kernel
theorem dX5_heaviest_11 : decode cX5_heaviest 11 = .ok (.invokevirtual 153, 3) := by decide +kernel
theorem dX5_heaviest_14 : decode cX5_heaviest 14 = .ok (.ireturn, 1) := by decide +kernel
theorem dX5_yard_0 : decode cX5_yard 0 = .ok (.aload_n 0, 1) := by decide +kernel
theorem dX5_yard_1 : decode cX5_yard 1 = .ok (.getfield 20, 3) := by decide +kernel
theorem dX5_yard_4 : decode cX5_yard 4 = .ok (.getfield 138, 3) := by decide +kernel
theorem dX5_yard_7 : decode cX5_yard 7 = .ok (.ifCond .ne 6, 3) := by decide +kernel
theorem dX5_yard_10 : decode cX5_yard 10 = .ok (.bipush (-9), 2) := by decide +kernel
theorem dX5_yard_12 : decode cX5_yard 12 = .ok (.ireturn, 1) := by decide +kernel
theorem dX5_yard_13 : decode cX5_yard 13 = .ok (.aload_n 0, 1) := by decide +kernel
theorem dX5_yard_14 : decode cX5_yard 14 = .ok (.getfield 24, 3) := by decide +kernel
theorem dX5_yard_17 : decode cX5_yard 17 = .ok (.aload_n 0, 1) := by decide +kernel
theorem dX5_yard_18 : decode cX5_yard 18 = .ok (.getfield 20, 3) := by decide +kernel
theorem dX5_yard_21 : decode cX5_yard 21 = .ok (.invokevirtual 70, 3) := by decide +kernel
theorem dX5_yard_24 : decode cX5_yard 24 = .ok (.iconst (-1), 1) := by decide +kernel
theorem dX5_yard_25 : decode cX5_yard 25 = .ok (.istore_n 1, 1) := by decide +kernel
theorem dX5_yard_26 : decode cX5_yard 26 = .ok (.bipush (-9), 2) := by decide +kernel
theorem dX5_yard_28 : decode cX5_yard 28 = .ok (.istore_n 2, 1) := by decide +kernel
theorem dX5_yard_29 : decode cX5_yard 29 = .ok (.bipush 50, 2) := by decide +kernel
theorem dX5_yard_31 : decode cX5_yard 31 = .ok (.istore_n 3, 1) := by decide +kernel
theorem dX5_yard_32 : decode cX5_yard 32 = .ok (.iload_n 3, 1) := by decide +kernel
theorem dX5_yard_33 : decode cX5_yard 33 = .ok (.sipush 950, 3) := by decide +kernel
theorem dX5_yard_36 : decode cX5_yard 36 = .ok (.if_icmp .gt 44, 3) := by decide +kernel
theorem dX5_yard_39 : decode cX5_yard 39 = .ok (.aload_n 0, 1) := by decide +kernel
theorem dX5_yard_40 : decode cX5_yard 40 = .ok (.getfield 24, 3) := by decide +kernel
theorem dX5_yard_43 : decode cX5_yard 43 = .ok (.iload_n 3, 1) := by decide +kernel
theorem dX5_yard_44 : decode cX5_yard 44 = .ok (.invokevirtual 156, 3) := by decide +kernel
theorem dX5_yard_47 : decode cX5_yard 47 = .ok (.aload_n 0, 1) := by decide +kernel
theorem dX5_yard_48 : decode cX5_yard 48 = .ok (.getfield 21, 3) := by decide +kernel
theorem dX5_yard_51 : decode cX5_yard 51 = .ok (.invokevirtual 126, 3) := by decide +kernel
theorem dX5_yard_54 : decode cX5_yard 54 = .ok (.aload_n 0, 1) := by decide +kernel
theorem dX5_yard_55 : decode cX5_yard 55 = .ok (.getfield 21, 3) := by decide +kernel
theorem dX5_yard_58 : decode cX5_yard 58 = .ok (.invokevirtual 153, 3) := by decide +kernel
theorem dX5_yard_61 : decode cX5_yard 61 = .ok (.istore 4, 2) := by decide +kernel
theorem dX5_yard_63 : decode cX5_yard 63 = .ok (.iload 4, 2) := by decide +kernel
theorem dX5_yard_65 : decode cX5_yard 65 = .ok (.iload_n 1, 1) := by decide +kernel
theorem dX5_yard_66 : decode cX5_yard 66 = .ok (.if_icmp .le 8, 3) := by decide +kernel
theorem dX5_yard_69 : decode cX5_yard 69 = .ok (.iload 4, 2) := by decide +kernel
theorem dX5_yard_71 : decode cX5_yard 71 = .ok (.istore_n 1, 1) := by decide +kernel
theorem dX5_yard_72 : decode cX5_yard 72 = .ok (.iload_n 3, 1) := by decide +kernel
theorem dX5_yard_73 : decode cX5_yard 73 = .ok (.istore_n 2, 1) := by decide +kernel
theorem dX5_yard_74 : decode cX5_yard 74 = .ok (.iinc 3 50, 3) := by decide +kernel
theorem dX5_yard_77 : decode cX5_yard 77 = .ok (.goto (-45), 3) := by decide +kernel
theorem dX5_yard_80 : decode cX5_yard 80 = .ok (.iload_n 2, 1) := by decide +kernel
theorem dX5_yard_81 : decode cX5_yard 81 = .ok (.ireturn, 1) := by decide +kernel
theorem dX5_row_0 : decode cX5_row 0 = .ok (.iload_n 1, 1) := by decide +kernel
theorem dX5_row_1 : decode cX5_row 1 = .ok (.ifCond .ge 10, 3) := by decide +kernel
theorem dX5_row_4 : decode cX5_row 4 = .ok (.aload_n 0, 1) := by decide +kernel
theorem dX5_row_5 : decode cX5_row 5 = .ok (.bipush (-4), 2) := by decide +kernel
theorem dX5_row_7 : decode cX5_row 7 = .ok (.invokevirtual 54, 3) := by decide +kernel
theorem dX5_row_10 : decode cX5_row 10 = .ok (.ireturn, 1) := by decide +kernel
theorem dX5_row_11 : decode cX5_row 11 = .ok (.iload_n 1, 1) := by decide +kernel
theorem dX5_row_12 : decode cX5_row 12 = .ok (.bipush 9, 2) := by decide +kernel
theorem dX5_row_14 : decode cX5_row 14 = .ok (.if_icmp .gt 15, 3) := by decide +kernel
theorem dX5_row_17 : decode cX5_row 17 = .ok (.aload_n 0, 1) := by decide +kernel
theorem dX5_row_18 : decode cX5_row 18 = .ok (.getfield 43, 3) := by decide +kernel
theorem dX5_row_21 : decode cX5_row 21 = .ok (.getfield 160, 3) := by decide +kernel
theorem dX5_row_24 : decode cX5_row 24 = .ok (.bipush 16, 2) := by decide +kernel
theorem dX5_row_26 : decode cX5_row 26 = .ok (.if_icmp .lt 10, 3) := by decide +kernel
theorem dX5_row_29 : decode cX5_row 29 = .ok (.aload_n 0, 1) := by decide +kernel
theorem dX5_row_30 : decode cX5_row 30 = .ok (.bipush (-6), 2) := by decide +kernel
theorem dX5_row_32 : decode cX5_row 32 = .ok (.invokevirtual 54, 3) := by decide +kernel
theorem dX5_row_35 : decode cX5_row 35 = .ok (.ireturn, 1) := by decide +kernel
theorem dX5_row_36 : decode cX5_row 36 = .ok (.aload_n 0, 1) := by decide +kernel
theorem dX5_row_37 : decode cX5_row 37 = .ok (.getfield 43, 3) := by decide +kernel
theorem dX5_row_40 : decode cX5_row 40 = .ok (.iload_n 1, 1) := by decide +kernel
theorem dX5_row_41 : decode cX5_row 41 = .ok (.invokevirtual 161, 3) := by decide +kernel
theorem dX5_row_44 : decode cX5_row 44 = .ok (.aload_n 0, 1) := by decide +kernel
theorem dX5_row_45 : decode cX5_row 45 = .ok (.getfield 43, 3) := by decide +kernel
theorem dX5_row_48 : decode cX5_row 48 = .ok (.getfield 160, 3) := by decide +kernel
theorem dX5_row_51 : decode cX5_row 51 = .ok (.ireturn, 1) := by decide +kernel
theorem dX5_judge_0 : decode cX5_judge 0 = .ok (.iload_n 1, 1) := by decide +kernel
theorem dX5_judge_1 : decode cX5_judge 1 = .ok (.ifCond .lt 8, 3) := by decide +kernel
theorem dX5_judge_4 : decode cX5_judge 4 = .ok (.iload_n 1, 1) := by decide +kernel
theorem dX5_judge_5 : decode cX5_judge 5 = .ok (.iconst 1, 1) := by decide +kernel
theorem dX5_judge_6 : decode cX5_judge 6 = .ok (.if_icmp .le 10, 3) := by decide +kernel
theorem dX5_judge_9 : decode cX5_judge 9 = .ok (.aload_n 0, 1) := by decide +kernel
theorem dX5_judge_10 : decode cX5_judge 10 = .ok (.bipush (-2), 2) := by decide +kernel
theorem dX5_judge_12 : decode cX5_judge 12 = .ok (.invokevirtual 54, 3) := by decide +kernel
theorem dX5_judge_15 : decode cX5_judge 15 = .ok (.ireturn, 1) := by decide +kernel
theorem dX5_judge_16 : decode cX5_judge 16 = .ok (.aload_n 0, 1) := by decide +kernel
theorem dX5_judge_17 : decode cX5_judge 17 = .ok (.getfield 43, 3) := by decide +kernel
theorem dX5_judge_20 : decode cX5_judge 20 = .ok (.aload_n 0, 1) := by decide +kernel
theorem dX5_judge_21 : decode cX5_judge 21 = .ok (.getfield 20, 3) := by decide +kernel
theorem dX5_judge_24 : decode cX5_judge 24 = .ok (.invokevirtual 164, 3) := by decide +kernel
theorem dX5_judge_27 : decode cX5_judge 27 = .ok (.iload_n 1, 1) := by decide +kernel
theorem dX5_judge_28 : decode cX5_judge 28 = .ok (.ifCond .ne 13, 3) := by decide +kernel
theorem dX5_judge_31 : decode cX5_judge 31 = .ok (.aload_n 0, 1) := by decide +kernel
theorem dX5_judge_32 : decode cX5_judge 32 = .ok (.getfield 43, 3) := by decide +kernel
theorem dX5_judge_35 : decode cX5_judge 35 = .ok (.getfield 167, 3) := by decide +kernel
theorem dX5_judge_38 : decode cX5_judge 38 = .ok (.goto 10, 3) := by decide +kernel
theorem dX5_judge_41 : decode cX5_judge 41 = .ok (.aload_n 0, 1) := by decide +kernel
theorem dX5_judge_42 : decode cX5_judge 42 = .ok (.getfield 43, 3) := by decide +kernel
theorem dX5_judge_45 : decode cX5_judge 45 = .ok (.getfield 170, 3) := by decide +kernel
theorem dX5_judge_48 : decode cX5_judge 48 = .ok (.ireturn, 1) := by decide +kernel
theorem dX5_image_0 : decode cX5_image 0 = .ok (.aload_n 0, 1) := by decide +kernel
theorem dX5_image_1 : decode cX5_image 1 = .ok (.getfield 30, 3) := by decide +kernel
theorem dX5_image_4 : decode cX5_image 4 = .ok (.aload_n 0, 1) := by decide +kernel
theorem dX5_image_5 : decode cX5_image 5 = .ok (.getfield 20, 3) := by decide +kernel
theorem dX5_image_8 : decode cX5_image 8 = .ok (.invokevirtual 70, 3) := by decide +kernel
theorem dX5_image_11 : decode cX5_image 11 = .ok (.aload_n 0, 1) := by decide +kernel
theorem dX5_image_12 : decode cX5_image 12 = .ok (.iconst 1, 1) := by decide +kernel
theorem dX5_image_13 : decode cX5_image 13 = .ok (.putfield 173, 3) := by decide +kernel
theorem dX5_image_16 : decode cX5_image 16 = .ok (.aload_n 0, 1) := by decide +kernel
theorem dX5_image_17 : decode cX5_image 17 = .ok (.getfield 30, 3) := by decide +kernel
theorem dX5_image_20 : decode cX5_image 20 = .ok (.getfield 138, 3) := by decide +kernel
theorem dX5_image_23 : decode cX5_image 23 = .ok (.ireturn, 1) := by decide +kernel
theorem dX5_on_0 : decode cX5_on 0 = .ok (.aload_n 0, 1) := by decide +kernel
theorem dX5_on_1 : decode cX5_on 1 = .ok (.getfield 173, 3) := by decide +kernel
theorem dX5_on_4 : decode cX5_on 4 = .ok (.ifCond .ne 10, 3) := by decide +kernel
theorem dX5_on_7 : decode cX5_on 7 = .ok (.aload_n 0, 1) := by decide +kernel
theorem dX5_on_8 : decode cX5_on 8 = .ok (.bipush (-3), 2) := by decide +kernel
theorem dX5_on_10 : decode cX5_on 10 = .ok (.invokevirtual 54, 3) := by decide +kernel
theorem dX5_on_13 : decode cX5_on 13 = .ok (.ireturn, 1) := by decide +kernel
theorem dX5_on_14 : decode cX5_on 14 = .ok (.aload_n 0, 1) := by decide +kernel
theorem dX5_on_15 : decode cX5_on 15 = .ok (.getfield 20, 3) := by decide +kernel
theorem dX5_on_18 : decode cX5_on 18 = .ok (.aload_n 0, 1) := by decide +kernel
theorem dX5_on_19 : decode cX5_on 19 = .ok (.getfield 30, 3) := by decide +kernel
theorem dX5_on_22 : decode cX5_on 22 = .ok (.invokevirtual 70, 3) := by decide +kernel
theorem dX5_on_25 : decode cX5_on 25 = .ok (.aload_n 0, 1) := by decide +kernel
theorem dX5_on_26 : decode cX5_on 26 = .ok (.getfield 20, 3) := by decide +kernel
theorem dX5_on_29 : decode cX5_on 29 = .ok (.getfield 138, 3) := by decide +kernel
theorem dX5_on_32 : decode cX5_on 32 = .ok (.ireturn, 1) := by decide +kernel
theorem dX5_count_0 : decode cX5_count 0 = .ok (.iload_n 1, 1) := by decide +kernel
theorem dX5_count_1 : decode cX5_count 1 = .ok (.tableswitch 118 0 7 #[47, 55, 63, 71, 79, 94, 102, 110], 47) := by decide +kernel
theorem dX5_count_48 : decode cX5_count 48 = .ok (.aload_n 0, 1) := by decide +kernel
theorem dX5_count_49 : decode cX5_count 49 = .ok (.getfield 20, 3) := by decide +kernel
theorem dX5_count_52 : decode cX5_count 52 = .ok (.getfield 150, 3) := by decide +kernel
theorem dX5_count_55 : decode cX5_count 55 = .ok (.ireturn, 1) := by decide +kernel
theorem dX5_count_56 : decode cX5_count 56 = .ok (.aload_n 0, 1) := by decide +kernel
theorem dX5_count_57 : decode cX5_count 57 = .ok (.getfield 20, 3) := by decide +kernel
theorem dX5_count_60 : decode cX5_count 60 = .ok (.getfield 138, 3) := by decide +kernel
theorem dX5_count_63 : decode cX5_count 63 = .ok (.ireturn, 1) := by decide +kernel
theorem dX5_count_64 : decode cX5_count 64 = .ok (.aload_n 0, 1) := by decide +kernel
theorem dX5_count_65 : decode cX5_count 65 = .ok (.getfield 20, 3) := by decide +kernel
theorem dX5_count_68 : decode cX5_count 68 = .ok (.getfield 144, 3) := by decide +kernel
theorem dX5_count_71 : decode cX5_count 71 = .ok (.ireturn, 1) := by decide +kernel
theorem dX5_count_72 : decode cX5_count 72 = .ok (.aload_n 0, 1) := by decide +kernel
theorem dX5_count_73 : decode cX5_count 73 = .ok (.getfield 20, 3) := by decide +kernel
theorem dX5_count_76 : decode cX5_count 76 = .ok (.invokevirtual 177, 3) := by decide +kernel
theorem dX5_count_79 : decode cX5_count 79 = .ok (.ireturn, 1) := by decide +kernel
theorem dX5_count_80 : decode cX5_count 80 = .ok (.aload_n 0, 1) := by decide +kernel
theorem dX5_count_81 : decode cX5_count 81 = .ok (.getfield 10, 3) := by decide +kernel
theorem dX5_count_84 : decode cX5_count 84 = .ok (.invokevirtual 126, 3) := by decide +kernel
theorem dX5_count_87 : decode cX5_count 87 = .ok (.aload_n 0, 1) := by decide +kernel
theorem dX5_count_88 : decode cX5_count 88 = .ok (.getfield 10, 3) := by decide +kernel
theorem dX5_count_91 : decode cX5_count 91 = .ok (.invokevirtual 180, 3) := by decide +kernel
theorem dX5_count_94 : decode cX5_count 94 = .ok (.ireturn, 1) := by decide +kernel
theorem dX5_count_95 : decode cX5_count 95 = .ok (.aload_n 0, 1) := by decide +kernel
theorem dX5_count_96 : decode cX5_count 96 = .ok (.getfield 20, 3) := by decide +kernel
theorem dX5_count_99 : decode cX5_count 99 = .ok (.getfield 109, 3) := by decide +kernel
theorem dX5_count_102 : decode cX5_count 102 = .ok (.ireturn, 1) := by decide +kernel
theorem dX5_count_103 : decode cX5_count 103 = .ok (.aload_n 0, 1) := by decide +kernel
theorem dX5_count_104 : decode cX5_count 104 = .ok (.getfield 43, 3) := by decide +kernel
theorem dX5_count_107 : decode cX5_count 107 = .ok (.getfield 160, 3) := by decide +kernel
theorem dX5_count_110 : decode cX5_count 110 = .ok (.ireturn, 1) := by decide +kernel
theorem dX5_count_111 : decode cX5_count 111 = .ok (.aload_n 0, 1) := by decide +kernel
theorem dX5_count_112 : decode cX5_count 112 = .ok (.getfield 36, 3) := by decide +kernel
theorem dX5_count_115 : decode cX5_count 115 = .ok (.getfield 66, 3) := by decide +kernel
theorem dX5_count_118 : decode cX5_count 118 = .ok (.ireturn, 1) := by decide +kernel
theorem dX5_count_119 : decode cX5_count 119 = .ok (.iload_n 1, 1) := by decide +kernel
theorem dX5_count_120 : decode cX5_count 120 = .ok (.bipush 11, 2) := by decide +kernel
theorem dX5_count_122 : decode cX5_count 122 = .ok (.if_icmp .lt 21, 3) := by decide +kernel
theorem dX5_count_125 : decode cX5_count 125 = .ok (.iload_n 1, 1) := by decide +kernel
theorem dX5_count_126 : decode cX5_count 126 = .ok (.bipush 16, 2) := by decide +kernel
theorem dX5_count_128 : decode cX5_count 128 = .ok (.if_icmp .gt 15, 3) := by decide +kernel
theorem dX5_count_131 : decode cX5_count 131 = .ok (.aload_n 0, 1) := by decide +kernel
theorem dX5_count_132 : decode cX5_count 132 = .ok (.getfield 51, 3) := by decide +kernel
theorem dX5_count_135 : decode cX5_count 135 = .ok (.iload_n 1, 1) := by decide +kernel
theorem dX5_count_136 : decode cX5_count 136 = .ok (.bipush 10, 2) := by decide +kernel
theorem dX5_count_138 : decode cX5_count 138 = .ok (.isub, 1) := by decide +kernel
theorem dX5_count_139 : decode cX5_count 139 = .ok (.iaload, 1) := by decide +kernel
theorem dX5_count_140 : decode cX5_count 140 = .ok (.goto 5, 3) := by decide +kernel
theorem dX5_count_143 : decode cX5_count 143 = .ok (.bipush (-9), 2) := by decide +kernel
theorem dX5_count_145 : decode cX5_count 145 = .ok (.ireturn, 1) := by decide +kernel
theorem dX5_refuse_0 : decode cX5_refuse 0 = .ok (.iload_n 1, 1) := by decide +kernel
theorem dX5_refuse_1 : decode cX5_refuse 1 = .ok (.ineg, 1) := by decide +kernel
theorem dX5_refuse_2 : decode cX5_refuse 2 = .ok (.istore_n 2, 1) := by decide +kernel
theorem dX5_refuse_3 : decode cX5_refuse 3 = .ok (.iload_n 2, 1) := by decide +kernel
theorem dX5_refuse_4 : decode cX5_refuse 4 = .ok (.ifCond .lt 22, 3) := by decide +kernel
theorem dX5_refuse_7 : decode cX5_refuse 7 = .ok (.iload_n 2, 1) := by decide +kernel
theorem dX5_refuse_8 : decode cX5_refuse 8 = .ok (.aload_n 0, 1) := by decide +kernel
theorem dX5_refuse_9 : decode cX5_refuse 9 = .ok (.getfield 51, 3) := by decide +kernel
theorem dX5_refuse_12 : decode cX5_refuse 12 = .ok (.arraylength, 1) := by decide +kernel
theorem dX5_refuse_13 : decode cX5_refuse 13 = .ok (.if_icmp .ge 13, 3) := by decide +kernel
theorem dX5_refuse_16 : decode cX5_refuse 16 = .ok (.aload_n 0, 1) := by decide +kernel
theorem dX5_refuse_17 : decode cX5_refuse 17 = .ok (.getfield 51, 3) := by decide +kernel
theorem dX5_refuse_20 : decode cX5_refuse 20 = .ok (.iload_n 2, 1) := by decide +kernel
theorem dX5_refuse_21 : decode cX5_refuse 21 = .ok (.dup2, 1) := by decide +kernel
theorem dX5_refuse_22 : decode cX5_refuse 22 = .ok (.iaload, 1) := by decide +kernel
theorem dX5_refuse_23 : decode cX5_refuse 23 = .ok (.iconst 1, 1) := by decide +kernel
theorem dX5_refuse_24 : decode cX5_refuse 24 = .ok (.iadd, 1) := by decide +kernel
theorem dX5_refuse_25 : decode cX5_refuse 25 = .ok (.iastore, 1) := by decide +kernel
theorem dX5_refuse_26 : decode cX5_refuse 26 = .ok (.iload_n 1, 1) := by decide +kernel
theorem dX5_refuse_27 : decode cX5_refuse 27 = .ok (.ireturn, 1) := by decide +kernel
theorem dX5_waitedOnTrial_0 : decode cX5_waitedOnTrial 0 = .ok (.aload_n 0, 1) := by decide +kernel
theorem dX5_waitedOnTrial_1 : decode cX5_waitedOnTrial 1 = .ok (.getfield 21, 3) := by decide +kernel
theorem dX5_waitedOnTrial_4 : decode cX5_waitedOnTrial 4 = .ok (.invokevirtual 126, 3) := by decide +kernel
theorem dX5_waitedOnTrial_7 : decode cX5_waitedOnTrial 7 = .ok (.aload_n 0, 1) := by decide +kernel
theorem dX5_waitedOnTrial_8 : decode cX5_waitedOnTrial 8 = .ok (.getfield 21, 3) := by decide +kernel
theorem dX5_waitedOnTrial_11 : decode cX5_waitedOnTrial 11 = .ok (.invokevirtual 132, 3) := by decide +kernel
theorem dX5_waitedOnTrial_14 : decode cX5_waitedOnTrial 14 = .ok (.ireturn, 1) := by decide +kernel
theorem dX5_findBestOrder_0 : decode cX5_findBestOrder 0 = .ok (.aload_n 0, 1) := by decide +kernel
theorem dX5_findBestOrder_1 : decode cX5_findBestOrder 1 = .ok (.getfield 24, 3) := by decide +kernel
theorem dX5_findBestOrder_4 : decode cX5_findBestOrder 4 = .ok (.aload_n 0, 1) := by decide +kernel
theorem dX5_findBestOrder_5 : decode cX5_findBestOrder 5 = .ok (.getfield 20, 3) := by decide +kernel
theorem dX5_findBestOrder_8 : decode cX5_findBestOrder 8 = .ok (.invokevirtual 70, 3) := by decide +kernel
theorem dX5_findBestOrder_11 : decode cX5_findBestOrder 11 = .ok (.aload_n 0, 1) := by decide +kernel
theorem dX5_findBestOrder_12 : decode cX5_findBestOrder 12 = .ok (.getfield 24, 3) := by decide +kernel
theorem dX5_findBestOrder_15 : decode cX5_findBestOrder 15 = .ok (.getfield 102, 3) := by decide +kernel
theorem dX5_findBestOrder_18 : decode cX5_findBestOrder 18 = .ok (.bipush 7, 2) := by decide +kernel
theorem dX5_findBestOrder_20 : decode cX5_findBestOrder 20 = .ok (.iconst 3, 1) := by decide +kernel
theorem dX5_findBestOrder_21 : decode cX5_findBestOrder 21 = .ok (.iastore, 1) := by decide +kernel
theorem dX5_findBestOrder_22 : decode cX5_findBestOrder 22 = .ok (.aload_n 0, 1) := by decide +kernel
theorem dX5_findBestOrder_23 : decode cX5_findBestOrder 23 = .ok (.getfield 24, 3) := by decide +kernel
theorem dX5_findBestOrder_26 : decode cX5_findBestOrder 26 = .ok (.invokevirtual 183, 3) := by decide +kernel
theorem dX5_findBestOrder_29 : decode cX5_findBestOrder 29 = .ok (.bipush (-9), 2) := by decide +kernel
theorem dX5_findBestOrder_31 : decode cX5_findBestOrder 31 = .ok (.istore_n 1, 1) := by decide +kernel
theorem dX5_findBestOrder_32 : decode cX5_findBestOrder 32 = .ok (.iconst 1, 1) := by decide +kernel
theorem dX5_findBestOrder_33 : decode cX5_findBestOrder 33 = .ok (.istore_n 2, 1) := by decide +kernel
theorem dX5_findBestOrder_34 : decode cX5_findBestOrder 34 = .ok (.iconst 0, 1) := by decide +kernel
theorem dX5_findBestOrder_35 : decode cX5_findBestOrder 35 = .ok (.istore_n 3, 1) := by decide +kernel
theorem dX5_findBestOrder_36 : decode cX5_findBestOrder 36 = .ok (.iload_n 3, 1) := by decide +kernel
theorem dX5_findBestOrder_37 : decode cX5_findBestOrder 37 = .ok (.bipush 120, 2) := by decide +kernel
theorem dX5_findBestOrder_39 : decode cX5_findBestOrder 39 = .ok (.if_icmp .ge 60, 3) := by decide +kernel
theorem dX5_findBestOrder_42 : decode cX5_findBestOrder 42 = .ok (.iload_n 2, 1) := by decide +kernel
theorem dX5_findBestOrder_43 : decode cX5_findBestOrder 43 = .ok (.ifCond .eq 56, 3) := by decide +kernel
theorem dX5_findBestOrder_46 : decode cX5_findBestOrder 46 = .ok (.aload_n 0, 1) := by decide +kernel
theorem dX5_findBestOrder_47 : decode cX5_findBestOrder 47 = .ok (.invokevirtual 147, 3) := by decide +kernel
theorem dX5_findBestOrder_50 : decode cX5_findBestOrder 50 = .ok (.istore 4, 2) := by decide +kernel
theorem dX5_findBestOrder_52 : decode cX5_findBestOrder 52 = .ok (.iload_n 1, 1) := by decide +kernel
theorem dX5_findBestOrder_53 : decode cX5_findBestOrder 53 = .ok (.bipush (-9), 2) := by decide +kernel
theorem dX5_findBestOrder_55 : decode cX5_findBestOrder 55 = .ok (.if_icmp .eq 9, 3) := by decide +kernel
theorem dX5_findBestOrder_58 : decode cX5_findBestOrder 58 = .ok (.iload 4, 2) := by decide +kernel
theorem dX5_findBestOrder_60 : decode cX5_findBestOrder 60 = .ok (.iload_n 1, 1) := by decide +kernel
theorem dX5_findBestOrder_61 : decode cX5_findBestOrder 61 = .ok (.if_icmp .ge 24, 3) := by decide +kernel
theorem dX5_findBestOrder_64 : decode cX5_findBestOrder 64 = .ok (.iload 4, 2) := by decide +kernel
theorem dX5_findBestOrder_66 : decode cX5_findBestOrder 66 = .ok (.istore_n 1, 1) := by decide +kernel
theorem dX5_findBestOrder_67 : decode cX5_findBestOrder 67 = .ok (.aload_n 0, 1) := by decide +kernel
theorem dX5_findBestOrder_68 : decode cX5_findBestOrder 68 = .ok (.getfield 24, 3) := by decide +kernel
theorem dX5_findBestOrder_71 : decode cX5_findBestOrder 71 = .ok (.getfield 186, 3) := by decide +kernel
theorem dX5_findBestOrder_74 : decode cX5_findBestOrder 74 = .ok (.iconst 0, 1) := by decide +kernel
theorem dX5_findBestOrder_75 : decode cX5_findBestOrder 75 = .ok (.aload_n 0, 1) := by decide +kernel
theorem dX5_findBestOrder_76 : decode cX5_findBestOrder 76 = .ok (.getfield 47, 3) := by decide +kernel
theorem dX5_findBestOrder_79 : decode cX5_findBestOrder 79 = .ok (.iconst 0, 1) := by decide +kernel
theorem dX5_findBestOrder_80 : decode cX5_findBestOrder 80 = .ok (.bipush 8, 2) := by decide +kernel
theorem dX5_findBestOrder_82 : decode cX5_findBestOrder 82 = .ok (.invokestatic 189, 3) := by decide +kernel
theorem dX5_findBestOrder_85 : decode cX5_findBestOrder 85 = .ok (.aload_n 0, 1) := by decide +kernel
theorem dX5_findBestOrder_86 : decode cX5_findBestOrder 86 = .ok (.getfield 24, 3) := by decide +kernel
theorem dX5_findBestOrder_89 : decode cX5_findBestOrder 89 = .ok (.invokevirtual 195, 3) := by decide +kernel
theorem dX5_findBestOrder_92 : decode cX5_findBestOrder 92 = .ok (.istore_n 2, 1) := by decide +kernel
theorem dX5_findBestOrder_93 : decode cX5_findBestOrder 93 = .ok (.iinc 3 1, 3) := by decide +kernel
theorem dX5_findBestOrder_96 : decode cX5_findBestOrder 96 = .ok (.goto (-60), 3) := by decide +kernel
theorem dX5_findBestOrder_99 : decode cX5_findBestOrder 99 = .ok (.iload_n 1, 1) := by decide +kernel
theorem dX5_findBestOrder_100 : decode cX5_findBestOrder 100 = .ok (.ireturn, 1) := by decide +kernel
theorem dX6_init_0 : decode cX6_init 0 = .ok (.aload_n 0, 1) := by decide +kernel
theorem dX6_init_1 : decode cX6_init 1 = .ok (.invokespecial 1, 3) := by decide +kernel
theorem dX6_init_4 : decode cX6_init 4 = .ok (.aload_n 0, 1) := by decide +kernel
theorem dX6_init_5 : decode cX6_init 5 = .ok (.bipush 7, 2) := by decide +kernel
theorem dX6_init_7 : decode cX6_init 7 = .ok (.newarray .int, 2) := by decide +kernel
theorem dX6_init_9 : decode cX6_init 9 = .ok (.putfield 7, 3) := by decide +kernel
theorem dX6_init_12 : decode cX6_init 12 = .ok (.aload_n 0, 1) := by decide +kernel
theorem dX6_init_13 : decode cX6_init 13 = .ok (.bipush 47, 2) := by decide +kernel
theorem dX6_init_15 : decode cX6_init 15 = .ok (.newarray .int, 2) := by decide +kernel
theorem dX6_init_17 : decode cX6_init 17 = .ok (.putfield 13, 3) := by decide +kernel
theorem dX6_init_20 : decode cX6_init 20 = .ok (.aload_n 0, 1) := by decide +kernel
theorem dX6_init_21 : decode cX6_init 21 = .ok (.bipush 47, 2) := by decide +kernel
theorem dX6_init_23 : decode cX6_init 23 = .ok (.newarray .int, 2) := by decide +kernel
theorem dX6_init_25 : decode cX6_init 25 = .ok (.putfield 16, 3) := by decide +kernel
theorem dX6_init_28 : decode cX6_init 28 = .ok (.aload_n 0, 1) := by decide +kernel
theorem dX6_init_29 : decode cX6_init 29 = .ok (.bipush 47, 2) := by decide +kernel
theorem dX6_init_31 : decode cX6_init 31 = .ok (.newarray .int, 2) := by decide +kernel
theorem dX6_init_33 : decode cX6_init 33 = .ok (.putfield 19, 3) := by decide +kernel
theorem dX6_init_36 : decode cX6_init 36 = .ok (.aload_n 0, 1) := by decide +kernel
theorem dX6_init_37 : decode cX6_init 37 = .ok (.bipush 48, 2) := by decide +kernel
theorem dX6_init_39 : decode cX6_init 39 = .ok (.newarray .int, 2) := by decide +kernel
theorem dX6_init_41 : decode cX6_init 41 = .ok (.putfield 22, 3) := by decide +kernel
theorem dX6_init_44 : decode cX6_init 44 = .ok (.aload_n 0, 1) := by decide +kernel
theorem dX6_init_45 : decode cX6_init 45 = .ok (.iconst 2, 1) := by decide +kernel
theorem dX6_init_46 : decode cX6_init 46 = .ok (.newarray .int, 2) := by decide +kernel
theorem dX6_init_48 : decode cX6_init 48 = .ok (.putfield 25, 3) := by decide +kernel
theorem dX6_init_51 : decode cX6_init 51 = .ok (.aload_n 0, 1) := by decide +kernel
theorem dX6_init_52 : decode cX6_init 52 = .ok (.bipush 8, 2) := by decide +kernel
theorem dX6_init_54 : decode cX6_init 54 = .ok (.newarray .int, 2) := by decide +kernel
theorem dX6_init_56 : decode cX6_init 56 = .ok (.putfield 28, 3) := by decide +kernel
theorem dX6_init_59 : decode cX6_init 59 = .ok (.aload_n 0, 1) := by decide +kernel
theorem dX6_init_60 : decode cX6_init 60 = .ok (.bipush 6, 2) := by decide +kernel
theorem dX6_init_62 : decode cX6_init 62 = .ok (.newarray .int, 2) := by decide +kernel
theorem dX6_init_64 : decode cX6_init 64 = .ok (.putfield 31, 3) := by decide +kernel
theorem dX6_init_67 : decode cX6_init 67 = .ok (.aload_n 0, 1) := by decide +kernel
theorem dX6_init_68 : decode cX6_init 68 = .ok (.bipush 8, 2) := by decide +kernel
theorem dX6_init_70 : decode cX6_init 70 = .ok (.newarray .int, 2) := by decide +kernel
theorem dX6_init_72 : decode cX6_init 72 = .ok (.putfield 34, 3) := by decide +kernel
theorem dX6_init_75 : decode cX6_init 75 = .ok (.aload_n 0, 1) := by decide +kernel
theorem dX6_init_76 : decode cX6_init 76 = .ok (.bipush 47, 2) := by decide +kernel
theorem dX6_init_78 : decode cX6_init 78 = .ok (.newarray .int, 2) := by decide +kernel
theorem dX6_init_80 : decode cX6_init 80 = .ok (.putfield 37, 3) := by decide +kernel
theorem dX6_init_83 : decode cX6_init 83 = .ok (.aload_n 0, 1) := by decide +kernel
theorem dX6_init_84 : decode cX6_init 84 = .ok (.bipush 8, 2) := by decide +kernel
theorem dX6_init_86 : decode cX6_init 86 = .ok (.newarray .int, 2) := by decide +kernel
theorem dX6_init_88 : decode cX6_init 88 = .ok (.putfield 40, 3) := by decide +kernel
theorem dX6_init_91 : decode cX6_init 91 = .ok (.aload_n 0, 1) := by decide +kernel
theorem dX6_init_92 : decode cX6_init 92 = .ok (.bipush 16, 2) := by decide +kernel
theorem dX6_init_94 : decode cX6_init 94 = .ok (.newarray .int, 2) := by decide +kernel
theorem dX6_init_96 : decode cX6_init 96 = .ok (.putfield 43, 3) := by decide +kernel
theorem dX6_init_99 : decode cX6_init 99 = .ok (.aload_n 0, 1) := by decide +kernel
theorem dX6_init_100 : decode cX6_init 100 = .ok (.getfield 13, 3) := by decide +kernel
theorem dX6_init_103 : decode cX6_init 103 = .ok (.iconst 4, 1) := by decide +kernel
theorem dX6_init_104 : decode cX6_init 104 = .ok (.sipush 300, 3) := by decide +kernel
theorem dX6_init_107 : decode cX6_init 107 = .ok (.iastore, 1) := by decide +kernel
theorem dX6_init_108 : decode cX6_init 108 = .ok (.aload_n 0, 1) := by decide +kernel
theorem dX6_init_109 : decode cX6_init 109 = .ok (.getfield 13, 3) := by decide +kernel
theorem dX6_init_112 : decode cX6_init 112 = .ok (.iconst 5, 1) := by decide +kernel
theorem dX6_init_113 : decode cX6_init 113 = .ok (.sipush 600, 3) := by decide +kernel
theorem dX6_init_116 : decode cX6_init 116 = .ok (.iastore, 1) := by decide +kernel
theorem dX6_init_117 : decode cX6_init 117 = .ok (.aload_n 0, 1) := by decide +kernel
theorem dX6_init_118 : decode cX6_init 118 = .ok (.getfield 13, 3) := by decide +kernel
theorem dX6_init_121 : decode cX6_init 121 = .ok (.bipush 6, 2) := by decide +kernel
theorem dX6_init_123 : decode cX6_init 123 = .ok (.bipush 20, 2) := by decide +kernel
theorem dX6_init_125 : decode cX6_init 125 = .ok (.iastore, 1) := by decide +kernel
theorem dX6_init_126 : decode cX6_init 126 = .ok (.aload_n 0, 1) := by decide +kernel
theorem dX6_init_127 : decode cX6_init 127 = .ok (.getfield 13, 3) := by decide +kernel
theorem dX6_init_130 : decode cX6_init 130 = .ok (.bipush 7, 2) := by decide +kernel
theorem dX6_init_132 : decode cX6_init 132 = .ok (.iconst 3, 1) := by decide +kernel
theorem dX6_init_133 : decode cX6_init 133 = .ok (.iastore, 1) := by decide +kernel
theorem dX6_init_134 : decode cX6_init 134 = .ok (.aload_n 0, 1) := by decide +kernel
theorem dX6_init_135 : decode cX6_init 135 = .ok (.getfield 13, 3) := by decide +kernel
theorem dX6_init_138 : decode cX6_init 138 = .ok (.bipush 8, 2) := by decide +kernel
theorem dX6_init_140 : decode cX6_init 140 = .ok (.iconst 2, 1) := by decide +kernel
theorem dX6_init_141 : decode cX6_init 141 = .ok (.iastore, 1) := by decide +kernel
theorem dX6_init_142 : decode cX6_init 142 = .ok (.aload_n 0, 1) := by decide +kernel
theorem dX6_init_143 : decode cX6_init 143 = .ok (.getfield 13, 3) := by decide +kernel
theorem dX6_init_146 : decode cX6_init 146 = .ok (.bipush 9, 2) := by decide +kernel
theorem dX6_init_148 : decode cX6_init 148 = .ok (.iconst 5, 1) := by decide +kernel
theorem dX6_init_149 : decode cX6_init 149 = .ok (.iastore, 1) := by decide +kernel
theorem dX6_init_150 : decode cX6_init 150 = .ok (.return_, 1) := by decide +kernel
theorem dX6_refuse_0 : decode cX6_refuse 0 = .ok (.aload_n 0, 1) := by decide +kernel
theorem dX6_refuse_1 : decode cX6_refuse 1 = .ok (.getfield 7, 3) := by decide +kernel
theorem dX6_refuse_4 : decode cX6_refuse 4 = .ok (.iload_n 1, 1) := by decide +kernel
theorem dX6_refuse_5 : decode cX6_refuse 5 = .ok (.ineg, 1) := by decide +kernel
theorem dX6_refuse_6 : decode cX6_refuse 6 = .ok (.dup2, 1) := by decide +kernel
theorem dX6_refuse_7 : decode cX6_refuse 7 = .ok (.iaload, 1) := by decide +kernel
theorem dX6_refuse_8 : decode cX6_refuse 8 = .ok (.iconst 1, 1) := by decide +kernel
theorem dX6_refuse_9 : decode cX6_refuse 9 = .ok (.iadd, 1) := by decide +kernel
theorem dX6_refuse_10 : decode cX6_refuse 10 = .ok (.iastore, 1) := by decide +kernel
theorem dX6_refuse_11 : decode cX6_refuse 11 = .ok (.iload_n 1, 1) := by decide +kernel
theorem dX6_refuse_12 : decode cX6_refuse 12 = .ok (.ireturn, 1) := by decide +kernel
theorem dX6_isIn_0 : decode cX6_isIn 0 = .ok (.iload_n 0, 1) := by decide +kernel
theorem dX6_isIn_1 : decode cX6_isIn 1 = .ok (.ifCond .lt 12, 3) := by decide +kernel
theorem dX6_isIn_4 : decode cX6_isIn 4 = .ok (.iload_n 0, 1) := by decide +kernel
theorem dX6_isIn_5 : decode cX6_isIn 5 = .ok (.iload_n 1, 1) := by decide +kernel
theorem dX6_isIn_6 : decode cX6_isIn 6 = .ok (.if_icmp .ge 7, 3) := by decide +kernel
theorem dX6_isIn_9 : decode cX6_isIn 9 = .ok (.iconst 1, 1) := by decide +kernel
theorem dX6_isIn_10 : decode cX6_isIn 10 = .ok (.goto 4, 3) := by decide +kernel
theorem dX6_isIn_13 : decode cX6_isIn 13 = .ok (.iconst 0, 1) := by decide +kernel
theorem dX6_isIn_14 : decode cX6_isIn 14 = .ok (.ireturn, 1) := by decide +kernel
theorem dX6_within_0 : decode cX6_within 0 = .ok (.iload_n 0, 1) := by decide +kernel
theorem dX6_within_1 : decode cX6_within 1 = .ok (.iload_n 1, 1) := by decide +kernel
theorem dX6_within_2 : decode cX6_within 2 = .ok (.if_icmp .ge 8, 3) := by decide +kernel
theorem dX6_within_5 : decode cX6_within 5 = .ok (.bipush (-4), 2) := by decide +kernel
theorem dX6_within_7 : decode cX6_within 7 = .ok (.goto 14, 3) := by decide +kernel
theorem dX6_within_10 : decode cX6_within 10 = .ok (.iload_n 0, 1) := by decide +kernel
theorem dX6_within_11 : decode cX6_within 11 = .ok (.iload_n 2, 1) := by decide +kernel
theorem dX6_within_12 : decode cX6_within 12 = .ok (.if_icmp .le 8, 3) := by decide +kernel
theorem dX6_within_15 : decode cX6_within 15 = .ok (.bipush (-6), 2) := by decide +kernel
theorem dX6_within_17 : decode cX6_within 17 = .ok (.goto 4, 3) := by decide +kernel
theorem dX6_within_20 : decode cX6_within 20 = .ok (.iconst 0, 1) := by decide +kernel
theorem dX6_within_21 : decode cX6_within 21 = .ok (.ireturn, 1) := by decide +kernel
theorem dX6_isPiece_0 : decode cX6_isPiece 0 = .ok (.iload_n 1, 1) := by decide +kernel
theorem dX6_isPiece_1 : decode cX6_isPiece 1 = .ok (.aload_n 0, 1) := by decide +kernel
theorem dX6_isPiece_2 : decode cX6_isPiece 2 = .ok (.getfield 13, 3) := by decide +kernel
theorem dX6_isPiece_5 : decode cX6_isPiece 5 = .ok (.iconst 0, 1) := by decide +kernel
theorem dX6_isPiece_6 : decode cX6_isPiece 6 = .ok (.iaload, 1) := by decide +kernel
theorem dX6_isPiece_7 : decode cX6_isPiece 7 = .ok (.invokestatic 46, 3) := by decide +kernel
theorem dX6_isPiece_10 : decode cX6_isPiece 10 = .ok (.ireturn, 1) := by decide +kernel
theorem dX6_isTrain_0 : decode cX6_isTrain 0 = .ok (.iload_n 1, 1) := by decide +kernel
theorem dX6_isTrain_1 : decode cX6_isTrain 1 = .ok (.aload_n 0, 1) := by decide +kernel
theorem dX6_isTrain_2 : decode cX6_isTrain 2 = .ok (.getfield 13, 3) := by decide +kernel
theorem dX6_isTrain_5 : decode cX6_isTrain 5 = .ok (.iconst 1, 1) := by decide +kernel
theorem dX6_isTrain_6 : decode cX6_isTrain 6 = .ok (.iaload, 1) := by decide +kernel
theorem dX6_isTrain_7 : decode cX6_isTrain 7 = .ok (.invokestatic 46, 3) := by decide +kernel
theorem dX6_isTrain_10 : decode cX6_isTrain 10 = .ok (.ireturn, 1) := by decide +kernel
theorem dX6_feed_0 : decode cX6_feed 0 = .ok (.iload_n 1, 1) := by decide +kernel
theorem dX6_feed_1 : decode cX6_feed 1 = .ok (.iconst 1, 1) := by decide +kernel
theorem dX6_feed_2 : decode cX6_feed 2 = .ok (.if_icmp .ge 10, 3) := by decide +kernel
theorem dX6_feed_5 : decode cX6_feed 5 = .ok (.aload_n 0, 1) := by decide +kernel
theorem dX6_feed_6 : decode cX6_feed 6 = .ok (.bipush (-4), 2) := by decide +kernel
theorem dX6_feed_8 : decode cX6_feed 8 = .ok (.invokevirtual 50, 3) := by decide +kernel
theorem dX6_feed_11 : decode cX6_feed 11 = .ok (.ireturn, 1) := by decide +kernel
theorem dX6_feed_12 : decode cX6_feed 12 = .ok (.iload_n 1, 1) := by decide +kernel
theorem dX6_feed_13 : decode cX6_feed 13 = .ok (.bipush 8, 2) := by decide +kernel
theorem dX6_feed_15 : decode cX6_feed 15 = .ok (.if_icmp .gt 14, 3) := by decide +kernel
theorem dX6_feed_18 : decode cX6_feed 18 = .ok (.aload_n 0, 1) := by decide +kernel
theorem dX6_feed_19 : decode cX6_feed 19 = .ok (.getfield 54, 3) := by decide +kernel
theorem dX6_feed_22 : decode cX6_feed 22 = .ok (.iload_n 1, 1) := by decide +kernel
theorem dX6_feed_23 : decode cX6_feed 23 = .ok (.iadd, 1) := by decide +kernel
theorem dX6_feed_24 : decode cX6_feed 24 = .ok (.bipush 48, 2) := by decide +kernel
theorem dX6_feed_26 : decode cX6_feed 26 = .ok (.if_icmp .le 10, 3) := by decide +kernel
theorem dX6_feed_29 : decode cX6_feed 29 = .ok (.aload_n 0, 1) := by decide +kernel
theorem dX6_feed_30 : decode cX6_feed 30 = .ok (.bipush (-6), 2) := by decide +kernel
theorem dX6_feed_32 : decode cX6_feed 32 = .ok (.invokevirtual 50, 3) := by decide +kernel
theorem dX6_feed_35 : decode cX6_feed 35 = .ok (.ireturn, 1) := by decide +kernel
theorem dX6_feed_36 : decode cX6_feed 36 = .ok (.iconst 0, 1) := by decide +kernel
theorem dX6_feed_37 : decode cX6_feed 37 = .ok (.istore 4, 2) := by decide +kernel
theorem dX6_feed_39 : decode cX6_feed 39 = .ok (.iload 4, 2) := by decide +kernel
theorem dX6_feed_41 : decode cX6_feed 41 = .ok (.iload_n 1, 1) := by decide +kernel
theorem dX6_feed_42 : decode cX6_feed 42 = .ok (.if_icmp .ge 40, 3) := by decide +kernel
theorem dX6_feed_45 : decode cX6_feed 45 = .ok (.aload_n 0, 1) := by decide +kernel
theorem dX6_feed_46 : decode cX6_feed 46 = .ok (.getfield 22, 3) := by decide +kernel
theorem dX6_feed_49 : decode cX6_feed 49 = .ok (.aload_n 0, 1) := by decide +kernel
theorem dX6_feed_50 : decode cX6_feed 50 = .ok (.getfield 54, 3) := by decide +kernel
theorem dX6_feed_53 : decode cX6_feed 53 = .ok (.lload_n 2, 1) := by decide +kernel
theorem dX6_feed_54 : decode cX6_feed 54 = .ok (.bipush 8, 2) := by decide +kernel
theorem dX6_feed_56 : decode cX6_feed 56 = .ok (.iload 4, 2) := by decide +kernel
theorem dX6_feed_58 : decode cX6_feed 58 = .ok (.imul, 1) := by decide +kernel
theorem dX6_feed_59 : decode cX6_feed 59 = .ok (.lshr, 1) := by decide +kernel
theorem dX6_feed_60 : decode cX6_feed 60 = .ok (.ldc2_w 58, 3) := by decide +kernel
theorem dX6_feed_63 : decode cX6_feed 63 = .ok (.land, 1) := by decide +kernel
theorem dX6_feed_64 : decode cX6_feed 64 = .ok (.l2i, 1) := by decide +kernel
theorem dX6_feed_65 : decode cX6_feed 65 = .ok (.iastore, 1) := by decide +kernel
theorem dX6_feed_66 : decode cX6_feed 66 = .ok (.aload_n 0, 1) := by decide +kernel
theorem dX6_feed_67 : decode cX6_feed 67 = .ok (.dup, 1) := by decide +kernel
theorem dX6_feed_68 : decode cX6_feed 68 = .ok (.getfield 54, 3) := by decide +kernel
theorem dX6_feed_71 : decode cX6_feed 71 = .ok (.iconst 1, 1) := by decide +kernel
theorem dX6_feed_72 : decode cX6_feed 72 = .ok (.iadd, 1) := by decide +kernel
theorem dX6_feed_73 : decode cX6_feed 73 = .ok (.putfield 54, 3) := by decide +kernel
theorem dX6_feed_76 : decode cX6_feed 76 = .ok (.iinc 4 1, 3) := by decide +kernel
theorem dX6_feed_79 : decode cX6_feed 79 = .ok (.goto (-40), 3) := by decide +kernel
theorem dX6_feed_82 : decode cX6_feed 82 = .ok (.aload_n 0, 1) := by decide +kernel
theorem dX6_feed_83 : decode cX6_feed 83 = .ok (.getfield 54, 3) := by decide +kernel
theorem dX6_feed_86 : decode cX6_feed 86 = .ok (.ireturn, 1) := by decide +kernel
theorem dX6_sign_0 : decode cX6_sign 0 = .ok (.aload_n 0, 1) := by decide +kernel
theorem dX6_sign_1 : decode cX6_sign 1 = .ok (.getfield 60, 3) := by decide +kernel
theorem dX6_sign_4 : decode cX6_sign 4 = .ok (.aload_n 0, 1) := by decide +kernel
theorem dX6_sign_5 : decode cX6_sign 5 = .ok (.getfield 54, 3) := by decide +kernel
theorem dX6_sign_8 : decode cX6_sign 8 = .ok (.if_icmp .lt 7, 3) := by decide +kernel
theorem dX6_sign_11 : decode cX6_sign 11 = .ok (.iconst (-1), 1) := by decide +kernel
theorem dX6_sign_12 : decode cX6_sign 12 = .ok (.goto 12, 3) := by decide +kernel
theorem dX6_sign_15 : decode cX6_sign 15 = .ok (.aload_n 0, 1) := by decide +kernel
theorem dX6_sign_16 : decode cX6_sign 16 = .ok (.getfield 22, 3) := by decide +kernel
theorem dX6_sign_19 : decode cX6_sign 19 = .ok (.aload_n 0, 1) := by decide +kernel
theorem dX6_sign_20 : decode cX6_sign 20 = .ok (.getfield 60, 3) := by decide +kernel
theorem dX6_sign_23 : decode cX6_sign 23 = .ok (.iaload, 1) := by decide +kernel
theorem dX6_sign_24 : decode cX6_sign 24 = .ok (.ireturn, 1) := by decide +kernel
theorem dX6_isDigit_0 : decode cX6_isDigit 0 = .ok (.aload_n 0, 1) := by decide +kernel
theorem dX6_isDigit_1 : decode cX6_isDigit 1 = .ok (.invokevirtual 63, 3) := by decide +kernel
theorem dX6_isDigit_4 : decode cX6_isDigit 4 = .ok (.bipush 48, 2) := by decide +kernel
theorem dX6_isDigit_6 : decode cX6_isDigit 6 = .ok (.if_icmp .lt 16, 3) := by decide +kernel
theorem dX6_isDigit_9 : decode cX6_isDigit 9 = .ok (.aload_n 0, 1) := by decide +kernel
theorem dX6_isDigit_10 : decode cX6_isDigit 10 = .ok (.invokevirtual 63, 3) := by decide +kernel
theorem dX6_isDigit_13 : decode cX6_isDigit 13 = .ok (.bipush 57, 2) := by decide +kernel
theorem dX6_isDigit_15 : decode cX6_isDigit 15 = .ok (.if_icmp .gt 7, 3) := by decide +kernel
theorem dX6_isDigit_18 : decode cX6_isDigit 18 = .ok (.iconst 1, 1) := by decide +kernel
theorem dX6_isDigit_19 : decode cX6_isDigit 19 = .ok (.goto 4, 3) := by decide +kernel
theorem dX6_isDigit_22 : decode cX6_isDigit 22 = .ok (.iconst 0, 1) := by decide +kernel
theorem dX6_isDigit_23 : decode cX6_isDigit 23 = .ok (.ireturn, 1) := by decide +kernel
theorem dX6_takesSign_0 : decode cX6_takesSign 0 = .ok (.aload_n 0, 1) := by decide +kernel
theorem dX6_takesSign_1 : decode cX6_takesSign 1 = .ok (.invokevirtual 63, 3) := by decide +kernel
theorem dX6_takesSign_4 : decode cX6_takesSign 4 = .ok (.iload_n 1, 1) := by decide +kernel
theorem dX6_takesSign_5 : decode cX6_takesSign 5 = .ok (.if_icmp .eq 5, 3) := by decide +kernel
theorem dX6_takesSign_8 : decode cX6_takesSign 8 = .ok (.iconst 0, 1) := by decide +kernel
theorem dX6_takesSign_9 : decode cX6_takesSign 9 = .ok (.ireturn, 1) := by decide +kernel
theorem dX6_takesSign_10 : decode cX6_takesSign 10 = .ok (.aload_n 0, 1) := by decide +kernel
theorem dX6_takesSign_11 : decode cX6_takesSign 11 = .ok (.dup, 1) := by decide +kernel
theorem dX6_takesSign_12 : decode cX6_takesSign 12 = .ok (.getfield 60, 3) := by decide +kernel
theorem dX6_takesSign_15 : decode cX6_takesSign 15 = .ok (.iconst 1, 1) := by decide +kernel
theorem dX6_takesSign_16 : decode cX6_takesSign 16 = .ok (.iadd, 1) := by decide +kernel
theorem dX6_takesSign_17 : decode cX6_takesSign 17 = .ok (.putfield 60, 3) := by decide +kernel
theorem dX6_takesSign_20 : decode cX6_takesSign 20 = .ok (.iconst 1, 1) := by decide +kernel
theorem dX6_takesSign_21 : decode cX6_takesSign 21 = .ok (.ireturn, 1) := by decide +kernel
theorem dX6_readsNumber_0 : decode cX6_readsNumber 0 = .ok (.aload_n 0, 1) := by decide +kernel
theorem dX6_readsNumber_1 : decode cX6_readsNumber 1 = .ok (.invokevirtual 67, 3) := by decide +kernel
theorem dX6_readsNumber_4 : decode cX6_readsNumber 4 = .ok (.ifCond .ne 5, 3) := by decide +kernel
theorem dX6_readsNumber_7 : decode cX6_readsNumber 7 = .ok (.iconst 0, 1) := by decide +kernel
theorem dX6_readsNumber_8 : decode cX6_readsNumber 8 = .ok (.ireturn, 1) := by decide +kernel
theorem dX6_readsNumber_9 : decode cX6_readsNumber 9 = .ok (.aload_n 0, 1) := by decide +kernel
theorem dX6_readsNumber_10 : decode cX6_readsNumber 10 = .ok (.getfield 25, 3) := by decide +kernel
theorem dX6_readsNumber_13 : decode cX6_readsNumber 13 = .ok (.iload_n 1, 1) := by decide +kernel
theorem dX6_readsNumber_14 : decode cX6_readsNumber 14 = .ok (.iconst 0, 1) := by decide +kernel
theorem dX6_readsNumber_15 : decode cX6_readsNumber 15 = .ok (.iastore, 1) := by decide +kernel
theorem dX6_readsNumber_16 : decode cX6_readsNumber 16 = .ok (.iconst 0, 1) := by decide +kernel
theorem dX6_readsNumber_17 : decode cX6_readsNumber 17 = .ok (.istore_n 3, 1) := by decide +kernel
theorem dX6_readsNumber_18 : decode cX6_readsNumber 18 = .ok (.iload_n 3, 1) := by decide +kernel
theorem dX6_readsNumber_19 : decode cX6_readsNumber 19 = .ok (.iload_n 2, 1) := by decide +kernel
theorem dX6_readsNumber_20 : decode cX6_readsNumber 20 = .ok (.if_icmp .ge 49, 3) := by decide +kernel
theorem dX6_readsNumber_23 : decode cX6_readsNumber 23 = .ok (.aload_n 0, 1) := by decide +kernel
theorem dX6_readsNumber_24 : decode cX6_readsNumber 24 = .ok (.invokevirtual 67, 3) := by decide +kernel
theorem dX6_readsNumber_27 : decode cX6_readsNumber 27 = .ok (.ifCond .eq 42, 3) := by decide +kernel
theorem dX6_readsNumber_30 : decode cX6_readsNumber 30 = .ok (.aload_n 0, 1) := by decide +kernel
theorem dX6_readsNumber_31 : decode cX6_readsNumber 31 = .ok (.getfield 25, 3) := by decide +kernel
theorem dX6_readsNumber_34 : decode cX6_readsNumber 34 = .ok (.iload_n 1, 1) := by decide +kernel
theorem dX6_readsNumber_35 : decode cX6_readsNumber 35 = .ok (.bipush 10, 2) := by decide +kernel
theorem dX6_readsNumber_37 : decode cX6_readsNumber 37 = .ok (.aload_n 0, 1) := by decide +kernel
theorem dX6_readsNumber_38 : decode cX6_readsNumber 38 = .ok (.getfield 25, 3) := by decide +kernel
theorem dX6_readsNumber_41 : decode cX6_readsNumber 41 = .ok (.iload_n 1, 1) := by decide +kernel
theorem dX6_readsNumber_42 : decode cX6_readsNumber 42 = .ok (.iaload, 1) := by decide +kernel
theorem dX6_readsNumber_43 : decode cX6_readsNumber 43 = .ok (.imul, 1) := by decide +kernel
theorem dX6_readsNumber_44 : decode cX6_readsNumber 44 = .ok (.aload_n 0, 1) := by decide +kernel
theorem dX6_readsNumber_45 : decode cX6_readsNumber 45 = .ok (.invokevirtual 63, 3) := by decide +kernel
theorem dX6_readsNumber_48 : decode cX6_readsNumber 48 = .ok (.iadd, 1) := by decide +kernel
theorem dX6_readsNumber_49 : decode cX6_readsNumber 49 = .ok (.bipush 48, 2) := by decide +kernel
theorem dX6_readsNumber_51 : decode cX6_readsNumber 51 = .ok (.isub, 1) := by decide +kernel
theorem dX6_readsNumber_52 : decode cX6_readsNumber 52 = .ok (.iastore, 1) := by decide +kernel
theorem dX6_readsNumber_53 : decode cX6_readsNumber 53 = .ok (.aload_n 0, 1) := by decide +kernel
theorem dX6_readsNumber_54 : decode cX6_readsNumber 54 = .ok (.dup, 1) := by decide +kernel
theorem dX6_readsNumber_55 : decode cX6_readsNumber 55 = .ok (.getfield 60, 3) := by decide +kernel
theorem dX6_readsNumber_58 : decode cX6_readsNumber 58 = .ok (.iconst 1, 1) := by decide +kernel
theorem dX6_readsNumber_59 : decode cX6_readsNumber 59 = .ok (.iadd, 1) := by decide +kernel
theorem dX6_readsNumber_60 : decode cX6_readsNumber 60 = .ok (.putfield 60, 3) := by decide +kernel
theorem dX6_readsNumber_63 : decode cX6_readsNumber 63 = .ok (.iinc 3 1, 3) := by decide +kernel
theorem dX6_readsNumber_66 : decode cX6_readsNumber 66 = .ok (.goto (-48), 3) := by decide +kernel
theorem dX6_readsNumber_69 : decode cX6_readsNumber 69 = .ok (.iconst 1, 1) := by decide +kernel
theorem dX6_readsNumber_70 : decode cX6_readsNumber 70 = .ok (.ireturn, 1) := by decide +kernel
theorem dX6_readsStatement_0 : decode cX6_readsStatement 0 = .ok (.aload_n 0, 1) := by decide +kernel
theorem dX6_readsStatement_1 : decode cX6_readsStatement 1 = .ok (.invokevirtual 63, 3) := by decide +kernel
theorem dX6_readsStatement_4 : decode cX6_readsStatement 4 = .ok (.istore_n 1, 1) := by decide +kernel
theorem dX6_readsStatement_5 : decode cX6_readsStatement 5 = .ok (.iload_n 1, 1) := by decide +kernel
theorem dX6_readsStatement_6 : decode cX6_readsStatement 6 = .ok (.bipush 112, 2) := by decide +kernel
theorem dX6_readsStatement_8 : decode cX6_readsStatement 8 = .ok (.if_icmp .eq 17, 3) := by decide +kernel
theorem dX6_readsStatement_11 : decode cX6_readsStatement 11 = .ok (.iload_n 1, 1) := by decide +kernel
theorem dX6_readsStatement_12 : decode cX6_readsStatement 12 = .ok (.bipush 116, 2) := by decide +kernel
theorem dX6_readsStatement_14 : decode cX6_readsStatement 14 = .ok (.if_icmp .eq 11, 3) := by decide +kernel
theorem dX6_readsStatement_17 : decode cX6_readsStatement 17 = .ok (.iload_n 1, 1) := by decide +kernel
theorem dX6_readsStatement_18 : decode cX6_readsStatement 18 = .ok (.bipush 101, 2) := by decide +kernel
theorem dX6_readsStatement_20 : decode cX6_readsStatement 20 = .ok (.if_icmp .eq 5, 3) := by decide +kernel
theorem dX6_readsStatement_23 : decode cX6_readsStatement 23 = .ok (.iconst 0, 1) := by decide +kernel
theorem dX6_readsStatement_24 : decode cX6_readsStatement 24 = .ok (.ireturn, 1) := by decide +kernel
theorem dX6_readsStatement_25 : decode cX6_readsStatement 25 = .ok (.aload_n 0, 1) := by decide +kernel
theorem dX6_readsStatement_26 : decode cX6_readsStatement 26 = .ok (.dup, 1) := by decide +kernel
theorem dX6_readsStatement_27 : decode cX6_readsStatement 27 = .ok (.getfield 60, 3) := by decide +kernel
theorem dX6_readsStatement_30 : decode cX6_readsStatement 30 = .ok (.iconst 1, 1) := by decide +kernel
theorem dX6_readsStatement_31 : decode cX6_readsStatement 31 = .ok (.iadd, 1) := by decide +kernel
theorem dX6_readsStatement_32 : decode cX6_readsStatement 32 = .ok (.putfield 60, 3) := by decide +kernel
theorem dX6_readsStatement_35 : decode cX6_readsStatement 35 = .ok (.aload_n 0, 1) := by decide +kernel
theorem dX6_readsStatement_36 : decode cX6_readsStatement 36 = .ok (.iconst 0, 1) := by decide +kernel
theorem dX6_readsStatement_37 : decode cX6_readsStatement 37 = .ok (.iload_n 1, 1) := by decide +kernel
theorem dX6_readsStatement_38 : decode cX6_readsStatement 38 = .ok (.bipush 116, 2) := by decide +kernel
theorem dX6_readsStatement_40 : decode cX6_readsStatement 40 = .ok (.if_icmp .ne 7, 3) := by decide +kernel
theorem dX6_readsStatement_43 : decode cX6_readsStatement 43 = .ok (.iconst 3, 1) := by decide +kernel
theorem dX6_readsStatement_44 : decode cX6_readsStatement 44 = .ok (.goto 4, 3) := by decide +kernel
theorem dX6_readsStatement_47 : decode cX6_readsStatement 47 = .ok (.iconst 1, 1) := by decide +kernel
theorem dX6_readsStatement_48 : decode cX6_readsStatement 48 = .ok (.invokevirtual 71, 3) := by decide +kernel
theorem dX6_readsStatement_51 : decode cX6_readsStatement 51 = .ok (.ifCond .ne 5, 3) := by decide +kernel
theorem dX6_readsStatement_54 : decode cX6_readsStatement 54 = .ok (.iconst 0, 1) := by decide +kernel
theorem dX6_readsStatement_55 : decode cX6_readsStatement 55 = .ok (.ireturn, 1) := by decide +kernel
theorem dX6_readsStatement_56 : decode cX6_readsStatement 56 = .ok (.iload_n 1, 1) := by decide +kernel
theorem dX6_readsStatement_57 : decode cX6_readsStatement 57 = .ok (.bipush 116, 2) := by decide +kernel
theorem dX6_readsStatement_59 : decode cX6_readsStatement 59 = .ok (.if_icmp .ne 23, 3) := by decide +kernel
theorem dX6_readsStatement_62 : decode cX6_readsStatement 62 = .ok (.aload_n 0, 1) := by decide +kernel
theorem dX6_readsStatement_63 : decode cX6_readsStatement 63 = .ok (.bipush 44, 2) := by decide +kernel
theorem dX6_readsStatement_65 : decode cX6_readsStatement 65 = .ok (.invokevirtual 74, 3) := by decide +kernel
theorem dX6_readsStatement_68 : decode cX6_readsStatement 68 = .ok (.ifCond .eq 12, 3) := by decide +kernel
theorem dX6_readsStatement_71 : decode cX6_readsStatement 71 = .ok (.aload_n 0, 1) := by decide +kernel
theorem dX6_readsStatement_72 : decode cX6_readsStatement 72 = .ok (.iconst 1, 1) := by decide +kernel
theorem dX6_readsStatement_73 : decode cX6_readsStatement 73 = .ok (.iconst 3, 1) := by decide +kernel
theorem dX6_readsStatement_74 : decode cX6_readsStatement 74 = .ok (.invokevirtual 71, 3) := by decide +kernel
theorem dX6_readsStatement_77 : decode cX6_readsStatement 77 = .ok (.ifCond .ne 5, 3) := by decide +kernel
theorem dX6_readsStatement_80 : decode cX6_readsStatement 80 = .ok (.iconst 0, 1) := by decide +kernel
theorem dX6_readsStatement_81 : decode cX6_readsStatement 81 = .ok (.ireturn, 1) := by decide +kernel
theorem dX6_readsStatement_82 : decode cX6_readsStatement 82 = .ok (.iload_n 1, 1) := by decide +kernel
theorem dX6_readsStatement_83 : decode cX6_readsStatement 83 = .ok (.bipush 112, 2) := by decide +kernel
theorem dX6_readsStatement_85 : decode cX6_readsStatement 85 = .ok (.if_icmp .ne 53, 3) := by decide +kernel
theorem dX6_readsStatement_88 : decode cX6_readsStatement 88 = .ok (.aload_n 0, 1) := by decide +kernel
theorem dX6_readsStatement_89 : decode cX6_readsStatement 89 = .ok (.getfield 25, 3) := by decide +kernel
theorem dX6_readsStatement_92 : decode cX6_readsStatement 92 = .ok (.iconst 1, 1) := by decide +kernel
theorem dX6_readsStatement_93 : decode cX6_readsStatement 93 = .ok (.aload_n 0, 1) := by decide +kernel
theorem dX6_readsStatement_94 : decode cX6_readsStatement 94 = .ok (.invokevirtual 63, 3) := by decide +kernel
theorem dX6_readsStatement_97 : decode cX6_readsStatement 97 = .ok (.bipush 100, 2) := by decide +kernel
theorem dX6_readsStatement_99 : decode cX6_readsStatement 99 = .ok (.if_icmp .ne 7, 3) := by decide +kernel
theorem dX6_readsStatement_102 : decode cX6_readsStatement 102 = .ok (.iconst 1, 1) := by decide +kernel
theorem dX6_readsStatement_103 : decode cX6_readsStatement 103 = .ok (.goto 4, 3) := by decide +kernel
theorem dX6_readsStatement_106 : decode cX6_readsStatement 106 = .ok (.iconst 0, 1) := by decide +kernel
theorem dX6_readsStatement_107 : decode cX6_readsStatement 107 = .ok (.iastore, 1) := by decide +kernel
theorem dX6_readsStatement_108 : decode cX6_readsStatement 108 = .ok (.aload_n 0, 1) := by decide +kernel
theorem dX6_readsStatement_109 : decode cX6_readsStatement 109 = .ok (.invokevirtual 63, 3) := by decide +kernel
theorem dX6_readsStatement_112 : decode cX6_readsStatement 112 = .ok (.bipush 115, 2) := by decide +kernel
theorem dX6_readsStatement_114 : decode cX6_readsStatement 114 = .ok (.if_icmp .eq 14, 3) := by decide +kernel
theorem dX6_readsStatement_117 : decode cX6_readsStatement 117 = .ok (.aload_n 0, 1) := by decide +kernel
theorem dX6_readsStatement_118 : decode cX6_readsStatement 118 = .ok (.invokevirtual 63, 3) := by decide +kernel
theorem dX6_readsStatement_121 : decode cX6_readsStatement 121 = .ok (.bipush 100, 2) := by decide +kernel
theorem dX6_readsStatement_123 : decode cX6_readsStatement 123 = .ok (.if_icmp .eq 5, 3) := by decide +kernel
theorem dX6_readsStatement_126 : decode cX6_readsStatement 126 = .ok (.iconst 0, 1) := by decide +kernel
theorem dX6_readsStatement_127 : decode cX6_readsStatement 127 = .ok (.ireturn, 1) := by decide +kernel
theorem dX6_readsStatement_128 : decode cX6_readsStatement 128 = .ok (.aload_n 0, 1) := by decide +kernel
theorem dX6_readsStatement_129 : decode cX6_readsStatement 129 = .ok (.dup, 1) := by decide +kernel
theorem dX6_readsStatement_130 : decode cX6_readsStatement 130 = .ok (.getfield 60, 3) := by decide +kernel
theorem dX6_readsStatement_133 : decode cX6_readsStatement 133 = .ok (.iconst 1, 1) := by decide +kernel
theorem dX6_readsStatement_134 : decode cX6_readsStatement 134 = .ok (.iadd, 1) := by decide +kernel
theorem dX6_readsStatement_135 : decode cX6_readsStatement 135 = .ok (.putfield 60, 3) := by decide +kernel
theorem dX6_readsStatement_138 : decode cX6_readsStatement 138 = .ok (.aload_n 0, 1) := by decide +kernel
theorem dX6_readsStatement_139 : decode cX6_readsStatement 139 = .ok (.bipush 59, 2) := by decide +kernel
theorem dX6_readsStatement_141 : decode cX6_readsStatement 141 = .ok (.invokevirtual 74, 3) := by decide +kernel
theorem dX6_readsStatement_144 : decode cX6_readsStatement 144 = .ok (.ireturn, 1) := by decide +kernel
theorem dX6_comes_0 : decode cX6_comes 0 = .ok (.iload_n 1, 1) := by decide +kernel
theorem dX6_comes_1 : decode cX6_comes 1 = .ok (.bipush 101, 2) := by decide +kernel
theorem dX6_comes_3 : decode cX6_comes 3 = .ok (.if_icmp .ne 31, 3) := by decide +kernel
theorem dX6_comes_6 : decode cX6_comes 6 = .ok (.aload_n 0, 1) := by decide +kernel
theorem dX6_comes_7 : decode cX6_comes 7 = .ok (.getfield 19, 3) := by decide +kernel
theorem dX6_comes_10 : decode cX6_comes 10 = .ok (.iconst 2, 1) := by decide +kernel
theorem dX6_comes_11 : decode cX6_comes 11 = .ok (.aload_n 0, 1) := by decide +kernel
theorem dX6_comes_12 : decode cX6_comes 12 = .ok (.getfield 25, 3) := by decide +kernel
theorem dX6_comes_15 : decode cX6_comes 15 = .ok (.iconst 0, 1) := by decide +kernel
theorem dX6_comes_16 : decode cX6_comes 16 = .ok (.iaload, 1) := by decide +kernel
theorem dX6_comes_17 : decode cX6_comes 17 = .ok (.iastore, 1) := by decide +kernel
theorem dX6_comes_18 : decode cX6_comes 18 = .ok (.aload_n 0, 1) := by decide +kernel
theorem dX6_comes_19 : decode cX6_comes 19 = .ok (.getfield 25, 3) := by decide +kernel
theorem dX6_comes_22 : decode cX6_comes 22 = .ok (.iconst 0, 1) := by decide +kernel
theorem dX6_comes_23 : decode cX6_comes 23 = .ok (.iaload, 1) := by decide +kernel
theorem dX6_comes_24 : decode cX6_comes 24 = .ok (.iconst 4, 1) := by decide +kernel
theorem dX6_comes_25 : decode cX6_comes 25 = .ok (.if_icmp .gt 7, 3) := by decide +kernel
theorem dX6_comes_28 : decode cX6_comes 28 = .ok (.iconst 1, 1) := by decide +kernel
theorem dX6_comes_29 : decode cX6_comes 29 = .ok (.goto 4, 3) := by decide +kernel
theorem dX6_comes_32 : decode cX6_comes 32 = .ok (.iconst 0, 1) := by decide +kernel
theorem dX6_comes_33 : decode cX6_comes 33 = .ok (.ireturn, 1) := by decide +kernel
theorem dX6_comes_34 : decode cX6_comes 34 = .ok (.iload_n 1, 1) := by decide +kernel
theorem dX6_comes_35 : decode cX6_comes 35 = .ok (.bipush 112, 2) := by decide +kernel
theorem dX6_comes_37 : decode cX6_comes 37 = .ok (.if_icmp .ne 7, 3) := by decide +kernel
theorem dX6_comes_40 : decode cX6_comes 40 = .ok (.iconst 0, 1) := by decide +kernel
theorem dX6_comes_41 : decode cX6_comes 41 = .ok (.goto 4, 3) := by decide +kernel
theorem dX6_comes_44 : decode cX6_comes 44 = .ok (.iconst 1, 1) := by decide +kernel
theorem dX6_comes_45 : decode cX6_comes 45 = .ok (.istore_n 2, 1) := by decide +kernel
theorem dX6_comes_46 : decode cX6_comes 46 = .ok (.iload_n 1, 1) := by decide +kernel
theorem dX6_comes_47 : decode cX6_comes 47 = .ok (.bipush 112, 2) := by decide +kernel
theorem dX6_comes_49 : decode cX6_comes 49 = .ok (.if_icmp .ne 8, 3) := by decide +kernel
theorem dX6_comes_52 : decode cX6_comes 52 = .ok (.bipush 13, 2) := by decide +kernel
theorem dX6_comes_54 : decode cX6_comes 54 = .ok (.goto 5, 3) := by decide +kernel
theorem dX6_comes_57 : decode cX6_comes 57 = .ok (.bipush 23, 2) := by decide +kernel
theorem dX6_comes_59 : decode cX6_comes 59 = .ok (.iconst 2, 1) := by decide +kernel
theorem dX6_comes_60 : decode cX6_comes 60 = .ok (.aload_n 0, 1) := by decide +kernel
theorem dX6_comes_61 : decode cX6_comes 61 = .ok (.getfield 19, 3) := by decide +kernel
theorem dX6_comes_64 : decode cX6_comes 64 = .ok (.iload_n 2, 1) := by decide +kernel
theorem dX6_comes_65 : decode cX6_comes 65 = .ok (.iaload, 1) := by decide +kernel
theorem dX6_comes_66 : decode cX6_comes 66 = .ok (.imul, 1) := by decide +kernel
theorem dX6_comes_67 : decode cX6_comes 67 = .ok (.iadd, 1) := by decide +kernel
theorem dX6_comes_68 : decode cX6_comes 68 = .ok (.istore_n 3, 1) := by decide +kernel
theorem dX6_comes_69 : decode cX6_comes 69 = .ok (.iload_n 1, 1) := by decide +kernel
theorem dX6_comes_70 : decode cX6_comes 70 = .ok (.bipush 112, 2) := by decide +kernel
theorem dX6_comes_72 : decode cX6_comes 72 = .ok (.if_icmp .ne 30, 3) := by decide +kernel
theorem dX6_comes_75 : decode cX6_comes 75 = .ok (.aload_n 0, 1) := by decide +kernel
theorem dX6_comes_76 : decode cX6_comes 76 = .ok (.getfield 25, 3) := by decide +kernel
theorem dX6_comes_79 : decode cX6_comes 79 = .ok (.iconst 0, 1) := by decide +kernel
theorem dX6_comes_80 : decode cX6_comes 80 = .ok (.iaload, 1) := by decide +kernel
theorem dX6_comes_81 : decode cX6_comes 81 = .ok (.ifCond .le 17, 3) := by decide +kernel
theorem dX6_comes_84 : decode cX6_comes 84 = .ok (.aload_n 0, 1) := by decide +kernel
theorem dX6_comes_85 : decode cX6_comes 85 = .ok (.getfield 19, 3) := by decide +kernel
theorem dX6_comes_88 : decode cX6_comes 88 = .ok (.iconst 0, 1) := by decide +kernel
theorem dX6_comes_89 : decode cX6_comes 89 = .ok (.iaload, 1) := by decide +kernel
theorem dX6_comes_90 : decode cX6_comes 90 = .ok (.iconst 5, 1) := by decide +kernel
theorem dX6_comes_91 : decode cX6_comes 91 = .ok (.if_icmp .ge 7, 3) := by decide +kernel
theorem dX6_comes_94 : decode cX6_comes 94 = .ok (.iconst 1, 1) := by decide +kernel
theorem dX6_comes_95 : decode cX6_comes 95 = .ok (.goto 44, 3) := by decide +kernel
theorem dX6_comes_98 : decode cX6_comes 98 = .ok (.iconst 0, 1) := by decide +kernel
theorem dX6_comes_99 : decode cX6_comes 99 = .ok (.goto 40, 3) := by decide +kernel
theorem dX6_comes_102 : decode cX6_comes 102 = .ok (.aload_n 0, 1) := by decide +kernel
theorem dX6_comes_103 : decode cX6_comes 103 = .ok (.getfield 25, 3) := by decide +kernel
theorem dX6_comes_106 : decode cX6_comes 106 = .ok (.iconst 0, 1) := by decide +kernel
theorem dX6_comes_107 : decode cX6_comes 107 = .ok (.iaload, 1) := by decide +kernel
theorem dX6_comes_108 : decode cX6_comes 108 = .ok (.sipush 600, 3) := by decide +kernel
theorem dX6_comes_111 : decode cX6_comes 111 = .ok (.if_icmp .gt 27, 3) := by decide +kernel
theorem dX6_comes_114 : decode cX6_comes 114 = .ok (.aload_n 0, 1) := by decide +kernel
theorem dX6_comes_115 : decode cX6_comes 115 = .ok (.getfield 25, 3) := by decide +kernel
theorem dX6_comes_118 : decode cX6_comes 118 = .ok (.iconst 1, 1) := by decide +kernel
theorem dX6_comes_119 : decode cX6_comes 119 = .ok (.iaload, 1) := by decide +kernel
theorem dX6_comes_120 : decode cX6_comes 120 = .ok (.ifCond .le 18, 3) := by decide +kernel
theorem dX6_comes_123 : decode cX6_comes 123 = .ok (.aload_n 0, 1) := by decide +kernel
theorem dX6_comes_124 : decode cX6_comes 124 = .ok (.getfield 19, 3) := by decide +kernel
theorem dX6_comes_127 : decode cX6_comes 127 = .ok (.iconst 1, 1) := by decide +kernel
theorem dX6_comes_128 : decode cX6_comes 128 = .ok (.iaload, 1) := by decide +kernel
theorem dX6_comes_129 : decode cX6_comes 129 = .ok (.bipush 8, 2) := by decide +kernel
theorem dX6_comes_131 : decode cX6_comes 131 = .ok (.if_icmp .ge 7, 3) := by decide +kernel
theorem dX6_comes_134 : decode cX6_comes 134 = .ok (.iconst 1, 1) := by decide +kernel
theorem dX6_comes_135 : decode cX6_comes 135 = .ok (.goto 4, 3) := by decide +kernel
theorem dX6_comes_138 : decode cX6_comes 138 = .ok (.iconst 0, 1) := by decide +kernel
theorem dX6_comes_139 : decode cX6_comes 139 = .ok (.istore 4, 2) := by decide +kernel
theorem dX6_comes_141 : decode cX6_comes 141 = .ok (.iload 4, 2) := by decide +kernel
theorem dX6_comes_143 : decode cX6_comes 143 = .ok (.ifCond .ne 5, 3) := by decide +kernel
theorem dX6_comes_146 : decode cX6_comes 146 = .ok (.iconst 0, 1) := by decide +kernel
theorem dX6_comes_147 : decode cX6_comes 147 = .ok (.ireturn, 1) := by decide +kernel
theorem dX6_comes_148 : decode cX6_comes 148 = .ok (.aload_n 0, 1) := by decide +kernel
theorem dX6_comes_149 : decode cX6_comes 149 = .ok (.getfield 19, 3) := by decide +kernel
theorem dX6_comes_152 : decode cX6_comes 152 = .ok (.iload_n 3, 1) := by decide +kernel
theorem dX6_comes_153 : decode cX6_comes 153 = .ok (.aload_n 0, 1) := by decide +kernel
theorem dX6_comes_154 : decode cX6_comes 154 = .ok (.getfield 25, 3) := by decide +kernel
theorem dX6_comes_157 : decode cX6_comes 157 = .ok (.iconst 0, 1) := by decide +kernel
theorem dX6_comes_158 : decode cX6_comes 158 = .ok (.iaload, 1) := by decide +kernel
theorem dX6_comes_159 : decode cX6_comes 159 = .ok (.iastore, 1) := by decide +kernel
theorem dX6_comes_160 : decode cX6_comes 160 = .ok (.aload_n 0, 1) := by decide +kernel
theorem dX6_comes_161 : decode cX6_comes 161 = .ok (.getfield 19, 3) := by decide +kernel
theorem dX6_comes_164 : decode cX6_comes 164 = .ok (.iload_n 3, 1) := by decide +kernel
theorem dX6_comes_165 : decode cX6_comes 165 = .ok (.iconst 1, 1) := by decide +kernel
theorem dX6_comes_166 : decode cX6_comes 166 = .ok (.iadd, 1) := by decide +kernel
theorem dX6_comes_167 : decode cX6_comes 167 = .ok (.aload_n 0, 1) := by decide +kernel
theorem dX6_comes_168 : decode cX6_comes 168 = .ok (.getfield 25, 3) := by decide +kernel
theorem dX6_comes_171 : decode cX6_comes 171 = .ok (.iconst 1, 1) := by decide +kernel
theorem dX6_comes_172 : decode cX6_comes 172 = .ok (.iaload, 1) := by decide +kernel
theorem dX6_comes_173 : decode cX6_comes 173 = .ok (.iastore, 1) := by decide +kernel
theorem dX6_comes_174 : decode cX6_comes 174 = .ok (.aload_n 0, 1) := by decide +kernel
theorem dX6_comes_175 : decode cX6_comes 175 = .ok (.getfield 19, 3) := by decide +kernel
theorem dX6_comes_178 : decode cX6_comes 178 = .ok (.iload_n 2, 1) := by decide +kernel
theorem dX6_comes_179 : decode cX6_comes 179 = .ok (.dup2, 1) := by decide +kernel
theorem dX6_comes_180 : decode cX6_comes 180 = .ok (.iaload, 1) := by decide +kernel
theorem dX6_comes_181 : decode cX6_comes 181 = .ok (.iconst 1, 1) := by decide +kernel
theorem dX6_comes_182 : decode cX6_comes 182 = .ok (.iadd, 1) := by decide +kernel
theorem dX6_comes_183 : decode cX6_comes 183 = .ok (.iastore, 1) := by decide +kernel
theorem dX6_comes_184 : decode cX6_comes 184 = .ok (.iconst 1, 1) := by decide +kernel
theorem dX6_comes_185 : decode cX6_comes 185 = .ok (.ireturn, 1) := by decide +kernel
theorem dX6_reads_0 : decode cX6_reads 0 = .ok (.aload_n 0, 1) := by decide +kernel
theorem dX6_reads_1 : decode cX6_reads 1 = .ok (.iconst 0, 1) := by decide +kernel
theorem dX6_reads_2 : decode cX6_reads 2 = .ok (.putfield 60, 3) := by decide +kernel
theorem dX6_reads_5 : decode cX6_reads 5 = .ok (.iconst 0, 1) := by decide +kernel
theorem dX6_reads_6 : decode cX6_reads 6 = .ok (.istore_n 1, 1) := by decide +kernel
theorem dX6_reads_7 : decode cX6_reads 7 = .ok (.aload_n 0, 1) := by decide +kernel
theorem dX6_reads_8 : decode cX6_reads 8 = .ok (.invokevirtual 78, 3) := by decide +kernel
theorem dX6_reads_11 : decode cX6_reads 11 = .ok (.ifCond .ne 12, 3) := by decide +kernel
theorem dX6_reads_14 : decode cX6_reads 14 = .ok (.sipush (-1000), 3) := by decide +kernel
theorem dX6_reads_17 : decode cX6_reads 17 = .ok (.aload_n 0, 1) := by decide +kernel
theorem dX6_reads_18 : decode cX6_reads 18 = .ok (.getfield 60, 3) := by decide +kernel
theorem dX6_reads_21 : decode cX6_reads 21 = .ok (.isub, 1) := by decide +kernel
theorem dX6_reads_22 : decode cX6_reads 22 = .ok (.ireturn, 1) := by decide +kernel
theorem dX6_reads_23 : decode cX6_reads 23 = .ok (.iinc 1 1, 3) := by decide +kernel
theorem dX6_reads_26 : decode cX6_reads 26 = .ok (.aload_n 0, 1) := by decide +kernel
theorem dX6_reads_27 : decode cX6_reads 27 = .ok (.getfield 60, 3) := by decide +kernel
theorem dX6_reads_30 : decode cX6_reads 30 = .ok (.aload_n 0, 1) := by decide +kernel
theorem dX6_reads_31 : decode cX6_reads 31 = .ok (.getfield 54, 3) := by decide +kernel
theorem dX6_reads_34 : decode cX6_reads 34 = .ok (.if_icmp .lt (-27), 3) := by decide +kernel
theorem dX6_reads_37 : decode cX6_reads 37 = .ok (.iconst 0, 1) := by decide +kernel
theorem dX6_reads_38 : decode cX6_reads 38 = .ok (.istore_n 2, 1) := by decide +kernel
theorem dX6_reads_39 : decode cX6_reads 39 = .ok (.iload_n 2, 1) := by decide +kernel
theorem dX6_reads_40 : decode cX6_reads 40 = .ok (.bipush 47, 2) := by decide +kernel
theorem dX6_reads_42 : decode cX6_reads 42 = .ok (.if_icmp .ge 21, 3) := by decide +kernel
theorem dX6_reads_45 : decode cX6_reads 45 = .ok (.aload_n 0, 1) := by decide +kernel
theorem dX6_reads_46 : decode cX6_reads 46 = .ok (.getfield 19, 3) := by decide +kernel
theorem dX6_reads_49 : decode cX6_reads 49 = .ok (.iload_n 2, 1) := by decide +kernel
theorem dX6_reads_50 : decode cX6_reads 50 = .ok (.aload_n 0, 1) := by decide +kernel
theorem dX6_reads_51 : decode cX6_reads 51 = .ok (.getfield 13, 3) := by decide +kernel
theorem dX6_reads_54 : decode cX6_reads 54 = .ok (.iload_n 2, 1) := by decide +kernel
theorem dX6_reads_55 : decode cX6_reads 55 = .ok (.iaload, 1) := by decide +kernel
theorem dX6_reads_56 : decode cX6_reads 56 = .ok (.iastore, 1) := by decide +kernel
theorem dX6_reads_57 : decode cX6_reads 57 = .ok (.iinc 2 1, 3) := by decide +kernel
theorem dX6_reads_60 : decode cX6_reads 60 = .ok (.goto (-21), 3) := by decide +kernel
theorem dX6_reads_63 : decode cX6_reads 63 = .ok (.aload_n 0, 1) := by decide +kernel
theorem dX6_reads_64 : decode cX6_reads 64 = .ok (.iconst 0, 1) := by decide +kernel
theorem dX6_reads_65 : decode cX6_reads 65 = .ok (.putfield 60, 3) := by decide +kernel
theorem dX6_reads_68 : decode cX6_reads 68 = .ok (.aload_n 0, 1) := by decide +kernel
theorem dX6_reads_69 : decode cX6_reads 69 = .ok (.getfield 60, 3) := by decide +kernel
theorem dX6_reads_72 : decode cX6_reads 72 = .ok (.aload_n 0, 1) := by decide +kernel
theorem dX6_reads_73 : decode cX6_reads 73 = .ok (.getfield 54, 3) := by decide +kernel
theorem dX6_reads_76 : decode cX6_reads 76 = .ok (.if_icmp .ge 36, 3) := by decide +kernel
theorem dX6_reads_79 : decode cX6_reads 79 = .ok (.aload_n 0, 1) := by decide +kernel
theorem dX6_reads_80 : decode cX6_reads 80 = .ok (.getfield 60, 3) := by decide +kernel
theorem dX6_reads_83 : decode cX6_reads 83 = .ok (.istore_n 2, 1) := by decide +kernel
theorem dX6_reads_84 : decode cX6_reads 84 = .ok (.aload_n 0, 1) := by decide +kernel
theorem dX6_reads_85 : decode cX6_reads 85 = .ok (.invokevirtual 63, 3) := by decide +kernel
theorem dX6_reads_88 : decode cX6_reads 88 = .ok (.istore_n 3, 1) := by decide +kernel
theorem dX6_reads_89 : decode cX6_reads 89 = .ok (.aload_n 0, 1) := by decide +kernel
theorem dX6_reads_90 : decode cX6_reads 90 = .ok (.invokevirtual 78, 3) := by decide +kernel
theorem dX6_reads_93 : decode cX6_reads 93 = .ok (.istore 4, 2) := by decide +kernel
theorem dX6_reads_95 : decode cX6_reads 95 = .ok (.aload_n 0, 1) := by decide +kernel
theorem dX6_reads_96 : decode cX6_reads 96 = .ok (.iload_n 3, 1) := by decide +kernel
theorem dX6_reads_97 : decode cX6_reads 97 = .ok (.invokevirtual 81, 3) := by decide +kernel
theorem dX6_reads_100 : decode cX6_reads 100 = .ok (.ifCond .ne 9, 3) := by decide +kernel
theorem dX6_reads_103 : decode cX6_reads 103 = .ok (.sipush (-2000), 3) := by decide +kernel
theorem dX6_reads_106 : decode cX6_reads 106 = .ok (.iload_n 2, 1) := by decide +kernel
theorem dX6_reads_107 : decode cX6_reads 107 = .ok (.isub, 1) := by decide +kernel
theorem dX6_reads_108 : decode cX6_reads 108 = .ok (.ireturn, 1) := by decide +kernel
theorem dX6_reads_109 : decode cX6_reads 109 = .ok (.goto (-41), 3) := by decide +kernel
theorem dX6_reads_112 : decode cX6_reads 112 = .ok (.iconst 0, 1) := by decide +kernel
theorem dX6_reads_113 : decode cX6_reads 113 = .ok (.istore_n 2, 1) := by decide +kernel
theorem dX6_reads_114 : decode cX6_reads 114 = .ok (.iload_n 2, 1) := by decide +kernel
theorem dX6_reads_115 : decode cX6_reads 115 = .ok (.bipush 47, 2) := by decide +kernel
theorem dX6_reads_117 : decode cX6_reads 117 = .ok (.if_icmp .ge 21, 3) := by decide +kernel
theorem dX6_reads_120 : decode cX6_reads 120 = .ok (.aload_n 0, 1) := by decide +kernel
theorem dX6_reads_121 : decode cX6_reads 121 = .ok (.getfield 13, 3) := by decide +kernel
theorem dX6_reads_124 : decode cX6_reads 124 = .ok (.iload_n 2, 1) := by decide +kernel
theorem dX6_reads_125 : decode cX6_reads 125 = .ok (.aload_n 0, 1) := by decide +kernel
theorem dX6_reads_126 : decode cX6_reads 126 = .ok (.getfield 19, 3) := by decide +kernel
theorem dX6_reads_129 : decode cX6_reads 129 = .ok (.iload_n 2, 1) := by decide +kernel
theorem dX6_reads_130 : decode cX6_reads 130 = .ok (.iaload, 1) := by decide +kernel
theorem dX6_reads_131 : decode cX6_reads 131 = .ok (.iastore, 1) := by decide +kernel
theorem dX6_reads_132 : decode cX6_reads 132 = .ok (.iinc 2 1, 3) := by decide +kernel
theorem dX6_reads_135 : decode cX6_reads 135 = .ok (.goto (-21), 3) := by decide +kernel
theorem dX6_reads_138 : decode cX6_reads 138 = .ok (.iload_n 1, 1) := by decide +kernel
theorem dX6_reads_139 : decode cX6_reads 139 = .ok (.ireturn, 1) := by decide +kernel
theorem dX6_line_0 : decode cX6_line 0 = .ok (.aload_n 0, 1) := by decide +kernel
theorem dX6_line_1 : decode cX6_line 1 = .ok (.invokevirtual 84, 3) := by decide +kernel
theorem dX6_line_4 : decode cX6_line 4 = .ok (.istore_n 1, 1) := by decide +kernel
theorem dX6_line_5 : decode cX6_line 5 = .ok (.aload_n 0, 1) := by decide +kernel
theorem dX6_line_6 : decode cX6_line 6 = .ok (.iconst 0, 1) := by decide +kernel
theorem dX6_line_7 : decode cX6_line 7 = .ok (.putfield 54, 3) := by decide +kernel
theorem dX6_line_10 : decode cX6_line 10 = .ok (.iload_n 1, 1) := by decide +kernel
theorem dX6_line_11 : decode cX6_line 11 = .ok (.ireturn, 1) := by decide +kernel
theorem dX6_piece_0 : decode cX6_piece 0 = .ok (.aload_n 0, 1) := by decide +kernel
theorem dX6_piece_1 : decode cX6_piece 1 = .ok (.iload_n 1, 1) := by decide +kernel
theorem dX6_piece_2 : decode cX6_piece 2 = .ok (.invokevirtual 87, 3) := by decide +kernel
theorem dX6_piece_5 : decode cX6_piece 5 = .ok (.ifCond .ne 11, 3) := by decide +kernel
theorem dX6_piece_8 : decode cX6_piece 8 = .ok (.aload_n 0, 1) := by decide +kernel
theorem dX6_piece_9 : decode cX6_piece 9 = .ok (.iconst (-1), 1) := by decide +kernel
theorem dX6_piece_10 : decode cX6_piece 10 = .ok (.invokevirtual 50, 3) := by decide +kernel
theorem dX6_piece_13 : decode cX6_piece 13 = .ok (.goto 33, 3) := by decide +kernel
theorem dX6_piece_16 : decode cX6_piece 16 = .ok (.iload_n 2, 1) := by decide +kernel
theorem dX6_piece_17 : decode cX6_piece 17 = .ok (.iconst 2, 1) := by decide +kernel
theorem dX6_piece_18 : decode cX6_piece 18 = .ok (.invokestatic 46, 3) := by decide +kernel
theorem dX6_piece_21 : decode cX6_piece 21 = .ok (.ifCond .eq 19, 3) := by decide +kernel
theorem dX6_piece_24 : decode cX6_piece 24 = .ok (.aload_n 0, 1) := by decide +kernel
theorem dX6_piece_25 : decode cX6_piece 25 = .ok (.getfield 13, 3) := by decide +kernel
theorem dX6_piece_28 : decode cX6_piece 28 = .ok (.bipush 13, 2) := by decide +kernel
theorem dX6_piece_30 : decode cX6_piece 30 = .ok (.iconst 2, 1) := by decide +kernel
theorem dX6_piece_31 : decode cX6_piece 31 = .ok (.iload_n 1, 1) := by decide +kernel
theorem dX6_piece_32 : decode cX6_piece 32 = .ok (.imul, 1) := by decide +kernel
theorem dX6_piece_33 : decode cX6_piece 33 = .ok (.iadd, 1) := by decide +kernel
theorem dX6_piece_34 : decode cX6_piece 34 = .ok (.iload_n 2, 1) := by decide +kernel
theorem dX6_piece_35 : decode cX6_piece 35 = .ok (.iadd, 1) := by decide +kernel
theorem dX6_piece_36 : decode cX6_piece 36 = .ok (.iaload, 1) := by decide +kernel
theorem dX6_piece_37 : decode cX6_piece 37 = .ok (.goto 9, 3) := by decide +kernel
theorem dX6_piece_40 : decode cX6_piece 40 = .ok (.aload_n 0, 1) := by decide +kernel
theorem dX6_piece_41 : decode cX6_piece 41 = .ok (.bipush (-2), 2) := by decide +kernel
theorem dX6_piece_43 : decode cX6_piece 43 = .ok (.invokevirtual 50, 3) := by decide +kernel
theorem dX6_piece_46 : decode cX6_piece 46 = .ok (.ireturn, 1) := by decide +kernel
theorem dX6_train_0 : decode cX6_train 0 = .ok (.aload_n 0, 1) := by decide +kernel
theorem dX6_train_1 : decode cX6_train 1 = .ok (.iload_n 1, 1) := by decide +kernel
theorem dX6_train_2 : decode cX6_train 2 = .ok (.invokevirtual 90, 3) := by decide +kernel
theorem dX6_train_5 : decode cX6_train 5 = .ok (.ifCond .ne 11, 3) := by decide +kernel
theorem dX6_train_8 : decode cX6_train 8 = .ok (.aload_n 0, 1) := by decide +kernel
theorem dX6_train_9 : decode cX6_train 9 = .ok (.iconst (-1), 1) := by decide +kernel
theorem dX6_train_10 : decode cX6_train 10 = .ok (.invokevirtual 50, 3) := by decide +kernel
theorem dX6_train_13 : decode cX6_train 13 = .ok (.goto 33, 3) := by decide +kernel
theorem dX6_train_16 : decode cX6_train 16 = .ok (.iload_n 2, 1) := by decide +kernel
theorem dX6_train_17 : decode cX6_train 17 = .ok (.iconst 2, 1) := by decide +kernel
theorem dX6_train_18 : decode cX6_train 18 = .ok (.invokestatic 46, 3) := by decide +kernel
theorem dX6_train_21 : decode cX6_train 21 = .ok (.ifCond .eq 19, 3) := by decide +kernel
theorem dX6_train_24 : decode cX6_train 24 = .ok (.aload_n 0, 1) := by decide +kernel
theorem dX6_train_25 : decode cX6_train 25 = .ok (.getfield 13, 3) := by decide +kernel
theorem dX6_train_28 : decode cX6_train 28 = .ok (.bipush 23, 2) := by decide +kernel
theorem dX6_train_30 : decode cX6_train 30 = .ok (.iconst 2, 1) := by decide +kernel
theorem dX6_train_31 : decode cX6_train 31 = .ok (.iload_n 1, 1) := by decide +kernel
theorem dX6_train_32 : decode cX6_train 32 = .ok (.imul, 1) := by decide +kernel
theorem dX6_train_33 : decode cX6_train 33 = .ok (.iadd, 1) := by decide +kernel
theorem dX6_train_34 : decode cX6_train 34 = .ok (.iload_n 2, 1) := by decide +kernel
theorem dX6_train_35 : decode cX6_train 35 = .ok (.iadd, 1) := by decide +kernel
theorem dX6_train_36 : decode cX6_train 36 = .ok (.iaload, 1) := by decide +kernel
theorem dX6_train_37 : decode cX6_train 37 = .ok (.goto 9, 3) := by decide +kernel
theorem dX6_train_40 : decode cX6_train 40 = .ok (.aload_n 0, 1) := by decide +kernel
theorem dX6_train_41 : decode cX6_train 41 = .ok (.bipush (-2), 2) := by decide +kernel
theorem dX6_train_43 : decode cX6_train 43 = .ok (.invokevirtual 50, 3) := by decide +kernel
theorem dX6_train_46 : decode cX6_train 46 = .ok (.ireturn, 1) := by decide +kernel
theorem dX6_least_0 : decode cX6_least 0 = .ok (.iload_n 0, 1) := by decide +kernel
theorem dX6_least_1 : decode cX6_least 1 = .ok (.iconst 2, 1) := by decide +kernel
theorem dX6_least_2 : decode cX6_least 2 = .ok (.if_icmp .lt 8, 3) := by decide +kernel
theorem dX6_least_5 : decode cX6_least 5 = .ok (.iload_n 0, 1) := by decide +kernel
theorem dX6_least_6 : decode cX6_least 6 = .ok (.iconst 5, 1) := by decide +kernel
theorem dX6_least_7 : decode cX6_least 7 = .ok (.if_icmp .ne 7, 3) := by decide +kernel
theorem dX6_least_10 : decode cX6_least 10 = .ok (.iconst 1, 1) := by decide +kernel
theorem dX6_least_11 : decode cX6_least 11 = .ok (.goto 4, 3) := by decide +kernel
theorem dX6_least_14 : decode cX6_least 14 = .ok (.iconst 0, 1) := by decide +kernel
theorem dX6_least_15 : decode cX6_least 15 = .ok (.ireturn, 1) := by decide +kernel
theorem dX6_most_0 : decode cX6_most 0 = .ok (.iload_n 0, 1) := by decide +kernel
theorem dX6_most_1 : decode cX6_most 1 = .ok (.tableswitch 62 0 7 #[47, 47, 51, 54, 54, 57, 62, 60], 47) := by decide +kernel
theorem dX6_most_48 : decode cX6_most 48 = .ok (.sipush 999, 3) := by decide +kernel
theorem dX6_most_51 : decode cX6_most 51 = .ok (.ireturn, 1) := by decide +kernel
theorem dX6_most_52 : decode cX6_most 52 = .ok (.bipush 90, 2) := by decide +kernel
theorem dX6_most_54 : decode cX6_most 54 = .ok (.ireturn, 1) := by decide +kernel
theorem dX6_most_55 : decode cX6_most 55 = .ok (.bipush 20, 2) := by decide +kernel
theorem dX6_most_57 : decode cX6_most 57 = .ok (.ireturn, 1) := by decide +kernel
theorem dX6_most_58 : decode cX6_most 58 = .ok (.bipush 60, 2) := by decide +kernel
theorem dX6_most_60 : decode cX6_most 60 = .ok (.ireturn, 1) := by decide +kernel
theorem dX6_most_61 : decode cX6_most 61 = .ok (.iconst 3, 1) := by decide +kernel
theorem dX6_most_62 : decode cX6_most 62 = .ok (.ireturn, 1) := by decide +kernel
theorem dX6_most_63 : decode cX6_most 63 = .ok (.iconst 1, 1) := by decide +kernel
theorem dX6_most_64 : decode cX6_most 64 = .ok (.ireturn, 1) := by decide +kernel
theorem dX6_set_0 : decode cX6_set 0 = .ok (.iload_n 1, 1) := by decide +kernel
theorem dX6_set_1 : decode cX6_set 1 = .ok (.bipush 9, 2) := by decide +kernel
theorem dX6_set_3 : decode cX6_set 3 = .ok (.invokestatic 46, 3) := by decide +kernel
theorem dX6_set_6 : decode cX6_set 6 = .ok (.ifCond .ne 10, 3) := by decide +kernel
theorem dX6_set_9 : decode cX6_set 9 = .ok (.aload_n 0, 1) := by decide +kernel
theorem dX6_set_10 : decode cX6_set 10 = .ok (.bipush (-2), 2) := by decide +kernel
theorem dX6_set_12 : decode cX6_set 12 = .ok (.invokevirtual 50, 3) := by decide +kernel
theorem dX6_set_15 : decode cX6_set 15 = .ok (.ireturn, 1) := by decide +kernel
theorem dX6_set_16 : decode cX6_set 16 = .ok (.iload_n 2, 1) := by decide +kernel
theorem dX6_set_17 : decode cX6_set 17 = .ok (.iload_n 1, 1) := by decide +kernel
theorem dX6_set_18 : decode cX6_set 18 = .ok (.invokestatic 93, 3) := by decide +kernel
theorem dX6_set_21 : decode cX6_set 21 = .ok (.iload_n 1, 1) := by decide +kernel
theorem dX6_set_22 : decode cX6_set 22 = .ok (.invokestatic 96, 3) := by decide +kernel
theorem dX6_set_25 : decode cX6_set 25 = .ok (.invokestatic 99, 3) := by decide +kernel
theorem dX6_set_28 : decode cX6_set 28 = .ok (.istore_n 3, 1) := by decide +kernel
theorem dX6_set_29 : decode cX6_set 29 = .ok (.iload_n 3, 1) := by decide +kernel
theorem dX6_set_30 : decode cX6_set 30 = .ok (.ifCond .eq 9, 3) := by decide +kernel
theorem dX6_set_33 : decode cX6_set 33 = .ok (.aload_n 0, 1) := by decide +kernel
theorem dX6_set_34 : decode cX6_set 34 = .ok (.iload_n 3, 1) := by decide +kernel
theorem dX6_set_35 : decode cX6_set 35 = .ok (.invokevirtual 50, 3) := by decide +kernel
theorem dX6_set_38 : decode cX6_set 38 = .ok (.ireturn, 1) := by decide +kernel
theorem dX6_set_39 : decode cX6_set 39 = .ok (.aload_n 0, 1) := by decide +kernel
theorem dX6_set_40 : decode cX6_set 40 = .ok (.getfield 13, 3) := by decide +kernel
theorem dX6_set_43 : decode cX6_set 43 = .ok (.iconst 4, 1) := by decide +kernel
theorem dX6_set_44 : decode cX6_set 44 = .ok (.iload_n 1, 1) := by decide +kernel
theorem dX6_set_45 : decode cX6_set 45 = .ok (.iadd, 1) := by decide +kernel
theorem dX6_set_46 : decode cX6_set 46 = .ok (.iaload, 1) := by decide +kernel
theorem dX6_set_47 : decode cX6_set 47 = .ok (.istore 4, 2) := by decide +kernel
theorem dX6_set_49 : decode cX6_set 49 = .ok (.aload_n 0, 1) := by decide +kernel
theorem dX6_set_50 : decode cX6_set 50 = .ok (.getfield 13, 3) := by decide +kernel
theorem dX6_set_53 : decode cX6_set 53 = .ok (.iconst 4, 1) := by decide +kernel
theorem dX6_set_54 : decode cX6_set 54 = .ok (.iload_n 1, 1) := by decide +kernel
theorem dX6_set_55 : decode cX6_set 55 = .ok (.iadd, 1) := by decide +kernel
theorem dX6_set_56 : decode cX6_set 56 = .ok (.iload_n 2, 1) := by decide +kernel
theorem dX6_set_57 : decode cX6_set 57 = .ok (.iastore, 1) := by decide +kernel
theorem dX6_set_58 : decode cX6_set 58 = .ok (.iload 4, 2) := by decide +kernel
theorem dX6_set_60 : decode cX6_set 60 = .ok (.ireturn, 1) := by decide +kernel
theorem dX6_makeDouble_0 : decode cX6_makeDouble 0 = .ok (.aload_n 0, 1) := by decide +kernel
theorem dX6_makeDouble_1 : decode cX6_makeDouble 1 = .ok (.iload_n 1, 1) := by decide +kernel
theorem dX6_makeDouble_2 : decode cX6_makeDouble 2 = .ok (.invokevirtual 87, 3) := by decide +kernel
theorem dX6_makeDouble_5 : decode cX6_makeDouble 5 = .ok (.ifCond .ne 9, 3) := by decide +kernel
theorem dX6_makeDouble_8 : decode cX6_makeDouble 8 = .ok (.aload_n 0, 1) := by decide +kernel
theorem dX6_makeDouble_9 : decode cX6_makeDouble 9 = .ok (.iconst (-1), 1) := by decide +kernel
theorem dX6_makeDouble_10 : decode cX6_makeDouble 10 = .ok (.invokevirtual 50, 3) := by decide +kernel
theorem dX6_makeDouble_13 : decode cX6_makeDouble 13 = .ok (.ireturn, 1) := by decide +kernel
theorem dX6_makeDouble_14 : decode cX6_makeDouble 14 = .ok (.bipush 13, 2) := by decide +kernel
theorem dX6_makeDouble_16 : decode cX6_makeDouble 16 = .ok (.iconst 2, 1) := by decide +kernel
theorem dX6_makeDouble_17 : decode cX6_makeDouble 17 = .ok (.iload_n 1, 1) := by decide +kernel
theorem dX6_makeDouble_18 : decode cX6_makeDouble 18 = .ok (.imul, 1) := by decide +kernel
theorem dX6_makeDouble_19 : decode cX6_makeDouble 19 = .ok (.iadd, 1) := by decide +kernel
theorem dX6_makeDouble_20 : decode cX6_makeDouble 20 = .ok (.iconst 1, 1) := by decide +kernel
theorem dX6_makeDouble_21 : decode cX6_makeDouble 21 = .ok (.iadd, 1) := by decide +kernel
theorem dX6_makeDouble_22 : decode cX6_makeDouble 22 = .ok (.istore_n 3, 1) := by decide +kernel
theorem dX6_makeDouble_23 : decode cX6_makeDouble 23 = .ok (.aload_n 0, 1) := by decide +kernel
theorem dX6_makeDouble_24 : decode cX6_makeDouble 24 = .ok (.getfield 13, 3) := by decide +kernel
theorem dX6_makeDouble_27 : decode cX6_makeDouble 27 = .ok (.iload_n 3, 1) := by decide +kernel
theorem dX6_makeDouble_28 : decode cX6_makeDouble 28 = .ok (.iaload, 1) := by decide +kernel
theorem dX6_makeDouble_29 : decode cX6_makeDouble 29 = .ok (.iload_n 2, 1) := by decide +kernel
theorem dX6_makeDouble_30 : decode cX6_makeDouble 30 = .ok (.ifCond .eq 7, 3) := by decide +kernel
theorem dX6_makeDouble_33 : decode cX6_makeDouble 33 = .ok (.iconst 1, 1) := by decide +kernel
theorem dX6_makeDouble_34 : decode cX6_makeDouble 34 = .ok (.goto 4, 3) := by decide +kernel
theorem dX6_makeDouble_37 : decode cX6_makeDouble 37 = .ok (.iconst 0, 1) := by decide +kernel
theorem dX6_makeDouble_38 : decode cX6_makeDouble 38 = .ok (.if_icmp .ne 5, 3) := by decide +kernel
theorem dX6_makeDouble_41 : decode cX6_makeDouble 41 = .ok (.iconst 0, 1) := by decide +kernel
theorem dX6_makeDouble_42 : decode cX6_makeDouble 42 = .ok (.ireturn, 1) := by decide +kernel
theorem dX6_makeDouble_43 : decode cX6_makeDouble 43 = .ok (.aload_n 0, 1) := by decide +kernel
theorem dX6_makeDouble_44 : decode cX6_makeDouble 44 = .ok (.getfield 13, 3) := by decide +kernel
theorem dX6_makeDouble_47 : decode cX6_makeDouble 47 = .ok (.iload_n 3, 1) := by decide +kernel
theorem dX6_makeDouble_48 : decode cX6_makeDouble 48 = .ok (.iload_n 2, 1) := by decide +kernel
theorem dX6_makeDouble_49 : decode cX6_makeDouble 49 = .ok (.ifCond .eq 7, 3) := by decide +kernel
theorem dX6_makeDouble_52 : decode cX6_makeDouble 52 = .ok (.iconst 1, 1) := by decide +kernel
theorem dX6_makeDouble_53 : decode cX6_makeDouble 53 = .ok (.goto 4, 3) := by decide +kernel
theorem dX6_makeDouble_56 : decode cX6_makeDouble 56 = .ok (.iconst 0, 1) := by decide +kernel
theorem dX6_makeDouble_57 : decode cX6_makeDouble 57 = .ok (.iastore, 1) := by decide +kernel
theorem dX6_makeDouble_58 : decode cX6_makeDouble 58 = .ok (.iconst 1, 1) := by decide +kernel
theorem dX6_makeDouble_59 : decode cX6_makeDouble 59 = .ok (.ireturn, 1) := by decide +kernel
theorem dX6_order_0 : decode cX6_order 0 = .ok (.iload_n 1, 1) := by decide +kernel
theorem dX6_order_1 : decode cX6_order 1 = .ok (.iconst 0, 1) := by decide +kernel
theorem dX6_order_2 : decode cX6_order 2 = .ok (.bipush 8, 2) := by decide +kernel
theorem dX6_order_4 : decode cX6_order 4 = .ok (.invokestatic 99, 3) := by decide +kernel
theorem dX6_order_7 : decode cX6_order 7 = .ok (.istore_n 3, 1) := by decide +kernel
theorem dX6_order_8 : decode cX6_order 8 = .ok (.iload_n 2, 1) := by decide +kernel
theorem dX6_order_9 : decode cX6_order 9 = .ok (.istore 4, 2) := by decide +kernel
theorem dX6_order_11 : decode cX6_order 11 = .ok (.iconst 0, 1) := by decide +kernel
theorem dX6_order_12 : decode cX6_order 12 = .ok (.istore 5, 2) := by decide +kernel
theorem dX6_order_14 : decode cX6_order 14 = .ok (.iconst 0, 1) := by decide +kernel
theorem dX6_order_15 : decode cX6_order 15 = .ok (.istore 6, 2) := by decide +kernel
theorem dX6_order_17 : decode cX6_order 17 = .ok (.iload 6, 2) := by decide +kernel
theorem dX6_order_19 : decode cX6_order 19 = .ok (.iload_n 1, 1) := by decide +kernel
theorem dX6_order_20 : decode cX6_order 20 = .ok (.if_icmp .ge 61, 3) := by decide +kernel
theorem dX6_order_23 : decode cX6_order 23 = .ok (.iload_n 3, 1) := by decide +kernel
theorem dX6_order_24 : decode cX6_order 24 = .ok (.ifCond .ne 57, 3) := by decide +kernel
theorem dX6_order_27 : decode cX6_order 27 = .ok (.iload 4, 2) := by decide +kernel
theorem dX6_order_29 : decode cX6_order 29 = .ok (.bipush 10, 2) := by decide +kernel
theorem dX6_order_31 : decode cX6_order 31 = .ok (.irem, 1) := by decide +kernel
theorem dX6_order_32 : decode cX6_order 32 = .ok (.istore 7, 2) := by decide +kernel
theorem dX6_order_34 : decode cX6_order 34 = .ok (.iload 4, 2) := by decide +kernel
theorem dX6_order_36 : decode cX6_order 36 = .ok (.bipush 10, 2) := by decide +kernel
theorem dX6_order_38 : decode cX6_order 38 = .ok (.idiv, 1) := by decide +kernel
theorem dX6_order_39 : decode cX6_order 39 = .ok (.istore 4, 2) := by decide +kernel
theorem dX6_order_41 : decode cX6_order 41 = .ok (.aload_n 0, 1) := by decide +kernel
theorem dX6_order_42 : decode cX6_order 42 = .ok (.iload 7, 2) := by decide +kernel
theorem dX6_order_44 : decode cX6_order 44 = .ok (.invokevirtual 90, 3) := by decide +kernel
theorem dX6_order_47 : decode cX6_order 47 = .ok (.ifCond .eq 14, 3) := by decide +kernel
theorem dX6_order_50 : decode cX6_order 50 = .ok (.iload 5, 2) := by decide +kernel
theorem dX6_order_52 : decode cX6_order 52 = .ok (.iload 7, 2) := by decide +kernel
theorem dX6_order_54 : decode cX6_order 54 = .ok (.ishr, 1) := by decide +kernel
theorem dX6_order_55 : decode cX6_order 55 = .ok (.iconst 1, 1) := by decide +kernel
theorem dX6_order_56 : decode cX6_order 56 = .ok (.iand, 1) := by decide +kernel
theorem dX6_order_57 : decode cX6_order 57 = .ok (.iconst 1, 1) := by decide +kernel
theorem dX6_order_58 : decode cX6_order 58 = .ok (.if_icmp .ne 8, 3) := by decide +kernel
theorem dX6_order_61 : decode cX6_order 61 = .ok (.iconst (-1), 1) := by decide +kernel
theorem dX6_order_62 : decode cX6_order 62 = .ok (.istore_n 3, 1) := by decide +kernel
theorem dX6_order_63 : decode cX6_order 63 = .ok (.goto 12, 3) := by decide +kernel
theorem dX6_order_66 : decode cX6_order 66 = .ok (.iload 5, 2) := by decide +kernel
theorem dX6_order_68 : decode cX6_order 68 = .ok (.iconst 1, 1) := by decide +kernel
theorem dX6_order_69 : decode cX6_order 69 = .ok (.iload 7, 2) := by decide +kernel
theorem dX6_order_71 : decode cX6_order 71 = .ok (.ishl, 1) := by decide +kernel
theorem dX6_order_72 : decode cX6_order 72 = .ok (.ior, 1) := by decide +kernel
theorem dX6_order_73 : decode cX6_order 73 = .ok (.istore 5, 2) := by decide +kernel
theorem dX6_order_75 : decode cX6_order 75 = .ok (.iinc 6 1, 3) := by decide +kernel
theorem dX6_order_78 : decode cX6_order 78 = .ok (.goto (-61), 3) := by decide +kernel
theorem dX6_order_81 : decode cX6_order 81 = .ok (.iload_n 3, 1) := by decide +kernel
theorem dX6_order_82 : decode cX6_order 82 = .ok (.ifCond .eq 9, 3) := by decide +kernel
theorem dX6_order_85 : decode cX6_order 85 = .ok (.aload_n 0, 1) := by decide +kernel
theorem dX6_order_86 : decode cX6_order 86 = .ok (.iload_n 3, 1) := by decide +kernel
theorem dX6_order_87 : decode cX6_order 87 = .ok (.invokevirtual 50, 3) := by decide +kernel
theorem dX6_order_90 : decode cX6_order 90 = .ok (.ireturn, 1) := by decide +kernel
theorem dX6_order_91 : decode cX6_order 91 = .ok (.aload_n 0, 1) := by decide +kernel
theorem dX6_order_92 : decode cX6_order 92 = .ok (.getfield 13, 3) := by decide +kernel
theorem dX6_order_95 : decode cX6_order 95 = .ok (.iconst 3, 1) := by decide +kernel
theorem dX6_order_96 : decode cX6_order 96 = .ok (.iaload, 1) := by decide +kernel
theorem dX6_order_97 : decode cX6_order 97 = .ok (.istore 6, 2) := by decide +kernel
theorem dX6_order_99 : decode cX6_order 99 = .ok (.iload_n 2, 1) := by decide +kernel
theorem dX6_order_100 : decode cX6_order 100 = .ok (.istore 4, 2) := by decide +kernel
theorem dX6_order_102 : decode cX6_order 102 = .ok (.iconst 0, 1) := by decide +kernel
theorem dX6_order_103 : decode cX6_order 103 = .ok (.istore 7, 2) := by decide +kernel
theorem dX6_order_105 : decode cX6_order 105 = .ok (.iload 7, 2) := by decide +kernel
theorem dX6_order_107 : decode cX6_order 107 = .ok (.iload_n 1, 1) := by decide +kernel
theorem dX6_order_108 : decode cX6_order 108 = .ok (.if_icmp .ge 31, 3) := by decide +kernel
theorem dX6_order_111 : decode cX6_order 111 = .ok (.aload_n 0, 1) := by decide +kernel
theorem dX6_order_112 : decode cX6_order 112 = .ok (.getfield 13, 3) := by decide +kernel
theorem dX6_order_115 : decode cX6_order 115 = .ok (.bipush 39, 2) := by decide +kernel
theorem dX6_order_117 : decode cX6_order 117 = .ok (.iload 7, 2) := by decide +kernel
theorem dX6_order_119 : decode cX6_order 119 = .ok (.iadd, 1) := by decide +kernel
theorem dX6_order_120 : decode cX6_order 120 = .ok (.iload 4, 2) := by decide +kernel
theorem dX6_order_122 : decode cX6_order 122 = .ok (.bipush 10, 2) := by decide +kernel
theorem dX6_order_124 : decode cX6_order 124 = .ok (.irem, 1) := by decide +kernel
theorem dX6_order_125 : decode cX6_order 125 = .ok (.iastore, 1) := by decide +kernel
theorem dX6_order_126 : decode cX6_order 126 = .ok (.iload 4, 2) := by decide +kernel
theorem dX6_order_128 : decode cX6_order 128 = .ok (.bipush 10, 2) := by decide +kernel
theorem dX6_order_130 : decode cX6_order 130 = .ok (.idiv, 1) := by decide +kernel
theorem dX6_order_131 : decode cX6_order 131 = .ok (.istore 4, 2) := by decide +kernel
theorem dX6_order_133 : decode cX6_order 133 = .ok (.iinc 7 1, 3) := by decide +kernel
theorem dX6_order_136 : decode cX6_order 136 = .ok (.goto (-31), 3) := by decide +kernel
theorem dX6_order_139 : decode cX6_order 139 = .ok (.aload_n 0, 1) := by decide +kernel
theorem dX6_order_140 : decode cX6_order 140 = .ok (.getfield 13, 3) := by decide +kernel
theorem dX6_order_143 : decode cX6_order 143 = .ok (.iconst 3, 1) := by decide +kernel
theorem dX6_order_144 : decode cX6_order 144 = .ok (.iload_n 1, 1) := by decide +kernel
theorem dX6_order_145 : decode cX6_order 145 = .ok (.iastore, 1) := by decide +kernel
theorem dX6_order_146 : decode cX6_order 146 = .ok (.iload 6, 2) := by decide +kernel
theorem dX6_order_148 : decode cX6_order 148 = .ok (.ireturn, 1) := by decide +kernel
theorem dX6_edgeBy_0 : decode cX6_edgeBy 0 = .ok (.aload_n 0, 1) := by decide +kernel
theorem dX6_edgeBy_1 : decode cX6_edgeBy 1 = .ok (.getfield 13, 3) := by decide +kernel
theorem dX6_edgeBy_4 : decode cX6_edgeBy 4 = .ok (.iconst 4, 1) := by decide +kernel
theorem dX6_edgeBy_5 : decode cX6_edgeBy 5 = .ok (.iload_n 1, 1) := by decide +kernel
theorem dX6_edgeBy_6 : decode cX6_edgeBy 6 = .ok (.iadd, 1) := by decide +kernel
theorem dX6_edgeBy_7 : decode cX6_edgeBy 7 = .ok (.iaload, 1) := by decide +kernel
theorem dX6_edgeBy_8 : decode cX6_edgeBy 8 = .ok (.aload_n 0, 1) := by decide +kernel
theorem dX6_edgeBy_9 : decode cX6_edgeBy 9 = .ok (.getfield 13, 3) := by decide +kernel
theorem dX6_edgeBy_12 : decode cX6_edgeBy 12 = .ok (.bipush 10, 2) := by decide +kernel
theorem dX6_edgeBy_14 : decode cX6_edgeBy 14 = .ok (.iaload, 1) := by decide +kernel
theorem dX6_edgeBy_15 : decode cX6_edgeBy 15 = .ok (.iconst 1, 1) := by decide +kernel
theorem dX6_edgeBy_16 : decode cX6_edgeBy 16 = .ok (.if_icmp .ne 25, 3) := by decide +kernel
theorem dX6_edgeBy_19 : decode cX6_edgeBy 19 = .ok (.aload_n 0, 1) := by decide +kernel
theorem dX6_edgeBy_20 : decode cX6_edgeBy 20 = .ok (.getfield 13, 3) := by decide +kernel
theorem dX6_edgeBy_23 : decode cX6_edgeBy 23 = .ok (.iconst 4, 1) := by decide +kernel
theorem dX6_edgeBy_24 : decode cX6_edgeBy 24 = .ok (.iload_n 1, 1) := by decide +kernel
theorem dX6_edgeBy_25 : decode cX6_edgeBy 25 = .ok (.iadd, 1) := by decide +kernel
theorem dX6_edgeBy_26 : decode cX6_edgeBy 26 = .ok (.iaload, 1) := by decide +kernel
theorem dX6_edgeBy_27 : decode cX6_edgeBy 27 = .ok (.aload_n 0, 1) := by decide +kernel
theorem dX6_edgeBy_28 : decode cX6_edgeBy 28 = .ok (.getfield 13, 3) := by decide +kernel
theorem dX6_edgeBy_31 : decode cX6_edgeBy 31 = .ok (.bipush 6, 2) := by decide +kernel
theorem dX6_edgeBy_33 : decode cX6_edgeBy 33 = .ok (.iaload, 1) := by decide +kernel
theorem dX6_edgeBy_34 : decode cX6_edgeBy 34 = .ok (.imul, 1) := by decide +kernel
theorem dX6_edgeBy_35 : decode cX6_edgeBy 35 = .ok (.bipush 100, 2) := by decide +kernel
theorem dX6_edgeBy_37 : decode cX6_edgeBy 37 = .ok (.idiv, 1) := by decide +kernel
theorem dX6_edgeBy_38 : decode cX6_edgeBy 38 = .ok (.goto 4, 3) := by decide +kernel
theorem dX6_edgeBy_41 : decode cX6_edgeBy 41 = .ok (.iconst 0, 1) := by decide +kernel
theorem dX6_edgeBy_42 : decode cX6_edgeBy 42 = .ok (.isub, 1) := by decide +kernel
theorem dX6_edgeBy_43 : decode cX6_edgeBy 43 = .ok (.ireturn, 1) := by decide +kernel
theorem dX6_kindBy_0 : decode cX6_kindBy 0 = .ok (.iload_n 1, 1) := by decide +kernel
theorem dX6_kindBy_1 : decode cX6_kindBy 1 = .ok (.aload_n 0, 1) := by decide +kernel
theorem dX6_kindBy_2 : decode cX6_kindBy 2 = .ok (.iconst 0, 1) := by decide +kernel
theorem dX6_kindBy_3 : decode cX6_kindBy 3 = .ok (.invokevirtual 103, 3) := by decide +kernel
theorem dX6_kindBy_6 : decode cX6_kindBy 6 = .ok (.if_icmp .gt 5, 3) := by decide +kernel
theorem dX6_kindBy_9 : decode cX6_kindBy 9 = .ok (.iconst 0, 1) := by decide +kernel
theorem dX6_kindBy_10 : decode cX6_kindBy 10 = .ok (.ireturn, 1) := by decide +kernel
theorem dX6_kindBy_11 : decode cX6_kindBy 11 = .ok (.iload_n 1, 1) := by decide +kernel
theorem dX6_kindBy_12 : decode cX6_kindBy 12 = .ok (.aload_n 0, 1) := by decide +kernel
theorem dX6_kindBy_13 : decode cX6_kindBy 13 = .ok (.iconst 1, 1) := by decide +kernel
theorem dX6_kindBy_14 : decode cX6_kindBy 14 = .ok (.invokevirtual 103, 3) := by decide +kernel
theorem dX6_kindBy_17 : decode cX6_kindBy 17 = .ok (.if_icmp .gt 5, 3) := by decide +kernel
theorem dX6_kindBy_20 : decode cX6_kindBy 20 = .ok (.iconst 1, 1) := by decide +kernel
theorem dX6_kindBy_21 : decode cX6_kindBy 21 = .ok (.ireturn, 1) := by decide +kernel
theorem dX6_kindBy_22 : decode cX6_kindBy 22 = .ok (.iload_n 1, 1) := by decide +kernel
theorem dX6_kindBy_23 : decode cX6_kindBy 23 = .ok (.iconst 1, 1) := by decide +kernel
theorem dX6_kindBy_24 : decode cX6_kindBy 24 = .ok (.iadd, 1) := by decide +kernel
theorem dX6_kindBy_25 : decode cX6_kindBy 25 = .ok (.iconst 2, 1) := by decide +kernel
theorem dX6_kindBy_26 : decode cX6_kindBy 26 = .ok (.idiv, 1) := by decide +kernel
theorem dX6_kindBy_27 : decode cX6_kindBy 27 = .ok (.aload_n 0, 1) := by decide +kernel
theorem dX6_kindBy_28 : decode cX6_kindBy 28 = .ok (.iconst 1, 1) := by decide +kernel
theorem dX6_kindBy_29 : decode cX6_kindBy 29 = .ok (.invokevirtual 103, 3) := by decide +kernel
theorem dX6_kindBy_32 : decode cX6_kindBy 32 = .ok (.if_icmp .gt 7, 3) := by decide +kernel
theorem dX6_kindBy_35 : decode cX6_kindBy 35 = .ok (.iconst 2, 1) := by decide +kernel
theorem dX6_kindBy_36 : decode cX6_kindBy 36 = .ok (.goto 4, 3) := by decide +kernel
theorem dX6_kindBy_39 : decode cX6_kindBy 39 = .ok (.iconst 3, 1) := by decide +kernel
theorem dX6_kindBy_40 : decode cX6_kindBy 40 = .ok (.ireturn, 1) := by decide +kernel
theorem dX6_weight_0 : decode cX6_weight 0 = .ok (.aload_n 0, 1) := by decide +kernel
theorem dX6_weight_1 : decode cX6_weight 1 = .ok (.getfield 13, 3) := by decide +kernel
theorem dX6_weight_4 : decode cX6_weight 4 = .ok (.bipush 23, 2) := by decide +kernel
theorem dX6_weight_6 : decode cX6_weight 6 = .ok (.iconst 2, 1) := by decide +kernel
theorem dX6_weight_7 : decode cX6_weight 7 = .ok (.iload_n 1, 1) := by decide +kernel
theorem dX6_weight_8 : decode cX6_weight 8 = .ok (.imul, 1) := by decide +kernel
theorem dX6_weight_9 : decode cX6_weight 9 = .ok (.iadd, 1) := by decide +kernel
theorem dX6_weight_10 : decode cX6_weight 10 = .ok (.iconst 1, 1) := by decide +kernel
theorem dX6_weight_11 : decode cX6_weight 11 = .ok (.iadd, 1) := by decide +kernel
theorem dX6_weight_12 : decode cX6_weight 12 = .ok (.iaload, 1) := by decide +kernel
theorem dX6_weight_13 : decode cX6_weight 13 = .ok (.ireturn, 1) := by decide +kernel
theorem dX6_comesAt_0 : decode cX6_comesAt 0 = .ok (.aload_n 0, 1) := by decide +kernel
theorem dX6_comesAt_1 : decode cX6_comesAt 1 = .ok (.getfield 13, 3) := by decide +kernel
theorem dX6_comesAt_4 : decode cX6_comesAt 4 = .ok (.bipush 23, 2) := by decide +kernel
theorem dX6_comesAt_6 : decode cX6_comesAt 6 = .ok (.iconst 2, 1) := by decide +kernel
theorem dX6_comesAt_7 : decode cX6_comesAt 7 = .ok (.iload_n 1, 1) := by decide +kernel
theorem dX6_comesAt_8 : decode cX6_comesAt 8 = .ok (.imul, 1) := by decide +kernel
theorem dX6_comesAt_9 : decode cX6_comesAt 9 = .ok (.iadd, 1) := by decide +kernel
theorem dX6_comesAt_10 : decode cX6_comesAt 10 = .ok (.iaload, 1) := by decide +kernel
theorem dX6_comesAt_11 : decode cX6_comesAt 11 = .ok (.ireturn, 1) := by decide +kernel
theorem dX6_kindOf_0 : decode cX6_kindOf 0 = .ok (.aload_n 0, 1) := by decide +kernel
theorem dX6_kindOf_1 : decode cX6_kindOf 1 = .ok (.aload_n 0, 1) := by decide +kernel
theorem dX6_kindOf_2 : decode cX6_kindOf 2 = .ok (.iload_n 1, 1) := by decide +kernel
theorem dX6_kindOf_3 : decode cX6_kindOf 3 = .ok (.invokevirtual 106, 3) := by decide +kernel
theorem dX6_kindOf_6 : decode cX6_kindOf 6 = .ok (.invokevirtual 109, 3) := by decide +kernel
theorem dX6_kindOf_9 : decode cX6_kindOf 9 = .ok (.ireturn, 1) := by decide +kernel
theorem dX6_climbs_0 : decode cX6_climbs 0 = .ok (.aload_n 0, 1) := by decide +kernel
theorem dX6_climbs_1 : decode cX6_climbs 1 = .ok (.iload_n 1, 1) := by decide +kernel
theorem dX6_climbs_2 : decode cX6_climbs 2 = .ok (.invokevirtual 90, 3) := by decide +kernel
theorem dX6_climbs_5 : decode cX6_climbs 5 = .ok (.ifCond .eq 11, 3) := by decide +kernel
theorem dX6_climbs_8 : decode cX6_climbs 8 = .ok (.aload_n 0, 1) := by decide +kernel
theorem dX6_climbs_9 : decode cX6_climbs 9 = .ok (.iload_n 1, 1) := by decide +kernel
theorem dX6_climbs_10 : decode cX6_climbs 10 = .ok (.invokevirtual 112, 3) := by decide +kernel
theorem dX6_climbs_13 : decode cX6_climbs 13 = .ok (.goto 8, 3) := by decide +kernel
theorem dX6_climbs_16 : decode cX6_climbs 16 = .ok (.aload_n 0, 1) := by decide +kernel
theorem dX6_climbs_17 : decode cX6_climbs 17 = .ok (.iconst (-1), 1) := by decide +kernel
theorem dX6_climbs_18 : decode cX6_climbs 18 = .ok (.invokevirtual 50, 3) := by decide +kernel
theorem dX6_climbs_21 : decode cX6_climbs 21 = .ok (.ireturn, 1) := by decide +kernel
theorem dX6_baseOf_0 : decode cX6_baseOf 0 = .ok (.iconst 0, 1) := by decide +kernel
theorem dX6_baseOf_1 : decode cX6_baseOf 1 = .ok (.istore_n 1, 1) := by decide +kernel
theorem dX6_baseOf_2 : decode cX6_baseOf 2 = .ok (.iconst 0, 1) := by decide +kernel
theorem dX6_baseOf_3 : decode cX6_baseOf 3 = .ok (.istore_n 2, 1) := by decide +kernel
theorem dX6_baseOf_4 : decode cX6_baseOf 4 = .ok (.iload_n 2, 1) := by decide +kernel
theorem dX6_baseOf_5 : decode cX6_baseOf 5 = .ok (.aload_n 0, 1) := by decide +kernel
theorem dX6_baseOf_6 : decode cX6_baseOf 6 = .ok (.getfield 13, 3) := by decide +kernel
theorem dX6_baseOf_9 : decode cX6_baseOf 9 = .ok (.iconst 0, 1) := by decide +kernel
theorem dX6_baseOf_10 : decode cX6_baseOf 10 = .ok (.iaload, 1) := by decide +kernel
theorem dX6_baseOf_11 : decode cX6_baseOf 11 = .ok (.if_icmp .ge 23, 3) := by decide +kernel
theorem dX6_baseOf_14 : decode cX6_baseOf 14 = .ok (.iload_n 1, 1) := by decide +kernel
theorem dX6_baseOf_15 : decode cX6_baseOf 15 = .ok (.aload_n 0, 1) := by decide +kernel
theorem dX6_baseOf_16 : decode cX6_baseOf 16 = .ok (.getfield 13, 3) := by decide +kernel
theorem dX6_baseOf_19 : decode cX6_baseOf 19 = .ok (.bipush 13, 2) := by decide +kernel
theorem dX6_baseOf_21 : decode cX6_baseOf 21 = .ok (.iconst 2, 1) := by decide +kernel
theorem dX6_baseOf_22 : decode cX6_baseOf 22 = .ok (.iload_n 2, 1) := by decide +kernel
theorem dX6_baseOf_23 : decode cX6_baseOf 23 = .ok (.imul, 1) := by decide +kernel
theorem dX6_baseOf_24 : decode cX6_baseOf 24 = .ok (.iadd, 1) := by decide +kernel
theorem dX6_baseOf_25 : decode cX6_baseOf 25 = .ok (.iaload, 1) := by decide +kernel
theorem dX6_baseOf_26 : decode cX6_baseOf 26 = .ok (.iadd, 1) := by decide +kernel
theorem dX6_baseOf_27 : decode cX6_baseOf 27 = .ok (.istore_n 1, 1) := by decide +kernel
theorem dX6_baseOf_28 : decode cX6_baseOf 28 = .ok (.iinc 2 1, 3) := by decide +kernel
theorem dX6_baseOf_31 : decode cX6_baseOf 31 = .ok (.goto (-27), 3) := by decide +kernel
theorem dX6_baseOf_34 : decode cX6_baseOf 34 = .ok (.iload_n 1, 1) := by decide +kernel
theorem dX6_baseOf_35 : decode cX6_baseOf 35 = .ok (.ireturn, 1) := by decide +kernel
theorem dX6_base_0 : decode cX6_base 0 = .ok (.aload_n 0, 1) := by decide +kernel
theorem dX6_base_1 : decode cX6_base 1 = .ok (.invokevirtual 115, 3) := by decide +kernel
theorem dX6_base_4 : decode cX6_base 4 = .ok (.ireturn, 1) := by decide +kernel
theorem dX6_takesOf_0 : decode cX6_takesOf 0 = .ok (.aload_n 0, 1) := by decide +kernel
theorem dX6_takesOf_1 : decode cX6_takesOf 1 = .ok (.getfield 13, 3) := by decide +kernel
theorem dX6_takesOf_4 : decode cX6_takesOf 4 = .ok (.bipush 7, 2) := by decide +kernel
theorem dX6_takesOf_6 : decode cX6_takesOf 6 = .ok (.iaload, 1) := by decide +kernel
theorem dX6_takesOf_7 : decode cX6_takesOf 7 = .ok (.aload_n 0, 1) := by decide +kernel
theorem dX6_takesOf_8 : decode cX6_takesOf 8 = .ok (.invokevirtual 115, 3) := by decide +kernel
theorem dX6_takesOf_11 : decode cX6_takesOf 11 = .ok (.iadd, 1) := by decide +kernel
theorem dX6_takesOf_12 : decode cX6_takesOf 12 = .ok (.aload_n 0, 1) := by decide +kernel
theorem dX6_takesOf_13 : decode cX6_takesOf 13 = .ok (.getfield 13, 3) := by decide +kernel
theorem dX6_takesOf_16 : decode cX6_takesOf 16 = .ok (.bipush 8, 2) := by decide +kernel
theorem dX6_takesOf_18 : decode cX6_takesOf 18 = .ok (.iaload, 1) := by decide +kernel
theorem dX6_takesOf_19 : decode cX6_takesOf 19 = .ok (.iadd, 1) := by decide +kernel
theorem dX6_takesOf_20 : decode cX6_takesOf 20 = .ok (.istore_n 2, 1) := by decide +kernel
theorem dX6_takesOf_21 : decode cX6_takesOf 21 = .ok (.aload_n 0, 1) := by decide +kernel
theorem dX6_takesOf_22 : decode cX6_takesOf 22 = .ok (.iload_n 1, 1) := by decide +kernel
theorem dX6_takesOf_23 : decode cX6_takesOf 23 = .ok (.invokevirtual 112, 3) := by decide +kernel
theorem dX6_takesOf_26 : decode cX6_takesOf 26 = .ok (.tableswitch 42 0 2 #[26, 31, 33], 26) := by decide +kernel
theorem dX6_takesOf_52 : decode cX6_takesOf 52 = .ok (.aload_n 0, 1) := by decide +kernel
theorem dX6_takesOf_53 : decode cX6_takesOf 53 = .ok (.invokevirtual 115, 3) := by decide +kernel
theorem dX6_takesOf_56 : decode cX6_takesOf 56 = .ok (.ireturn, 1) := by decide +kernel
theorem dX6_takesOf_57 : decode cX6_takesOf 57 = .ok (.iload_n 2, 1) := by decide +kernel
theorem dX6_takesOf_58 : decode cX6_takesOf 58 = .ok (.ireturn, 1) := by decide +kernel
theorem dX6_takesOf_59 : decode cX6_takesOf 59 = .ok (.iconst 2, 1) := by decide +kernel
theorem dX6_takesOf_60 : decode cX6_takesOf 60 = .ok (.iload_n 2, 1) := by decide +kernel
theorem dX6_takesOf_61 : decode cX6_takesOf 61 = .ok (.imul, 1) := by decide +kernel
theorem dX6_takesOf_62 : decode cX6_takesOf 62 = .ok (.aload_n 0, 1) := by decide +kernel
theorem dX6_takesOf_63 : decode cX6_takesOf 63 = .ok (.invokevirtual 115, 3) := by decide +kernel
theorem dX6_takesOf_66 : decode cX6_takesOf 66 = .ok (.iadd, 1) := by decide +kernel
theorem dX6_takesOf_67 : decode cX6_takesOf 67 = .ok (.ireturn, 1) := by decide +kernel
theorem dX6_takesOf_68 : decode cX6_takesOf 68 = .ok (.bipush (-9), 2) := by decide +kernel
theorem dX6_takesOf_70 : decode cX6_takesOf 70 = .ok (.ireturn, 1) := by decide +kernel
theorem dX6_takes_0 : decode cX6_takes 0 = .ok (.aload_n 0, 1) := by decide +kernel
theorem dX6_takes_1 : decode cX6_takes 1 = .ok (.iload_n 1, 1) := by decide +kernel
theorem dX6_takes_2 : decode cX6_takes 2 = .ok (.invokevirtual 90, 3) := by decide +kernel
theorem dX6_takes_5 : decode cX6_takes 5 = .ok (.ifCond .eq 11, 3) := by decide +kernel
theorem dX6_takes_8 : decode cX6_takes 8 = .ok (.aload_n 0, 1) := by decide +kernel
theorem dX6_takes_9 : decode cX6_takes 9 = .ok (.iload_n 1, 1) := by decide +kernel
theorem dX6_takes_10 : decode cX6_takes 10 = .ok (.invokevirtual 118, 3) := by decide +kernel
theorem dX6_takes_13 : decode cX6_takes 13 = .ok (.goto 8, 3) := by decide +kernel
theorem dX6_takes_16 : decode cX6_takes 16 = .ok (.aload_n 0, 1) := by decide +kernel
theorem dX6_takes_17 : decode cX6_takes 17 = .ok (.iconst (-1), 1) := by decide +kernel
theorem dX6_takes_18 : decode cX6_takes 18 = .ok (.invokevirtual 50, 3) := by decide +kernel
theorem dX6_takes_21 : decode cX6_takes 21 = .ok (.ireturn, 1) := by decide +kernel
theorem dX6_opens_0 : decode cX6_opens 0 = .ok (.iconst 0, 1) := by decide +kernel
theorem dX6_opens_1 : decode cX6_opens 1 = .ok (.istore_n 1, 1) := by decide +kernel
theorem dX6_opens_2 : decode cX6_opens 2 = .ok (.iload_n 1, 1) := by decide +kernel
theorem dX6_opens_3 : decode cX6_opens 3 = .ok (.bipush 8, 2) := by decide +kernel
theorem dX6_opens_5 : decode cX6_opens 5 = .ok (.if_icmp .ge 25, 3) := by decide +kernel
theorem dX6_opens_8 : decode cX6_opens 8 = .ok (.aload_n 0, 1) := by decide +kernel
theorem dX6_opens_9 : decode cX6_opens 9 = .ok (.getfield 28, 3) := by decide +kernel
theorem dX6_opens_12 : decode cX6_opens 12 = .ok (.iload_n 1, 1) := by decide +kernel
theorem dX6_opens_13 : decode cX6_opens 13 = .ok (.bipush (-9), 2) := by decide +kernel
theorem dX6_opens_15 : decode cX6_opens 15 = .ok (.iastore, 1) := by decide +kernel
theorem dX6_opens_16 : decode cX6_opens 16 = .ok (.aload_n 0, 1) := by decide +kernel
theorem dX6_opens_17 : decode cX6_opens 17 = .ok (.getfield 34, 3) := by decide +kernel
theorem dX6_opens_20 : decode cX6_opens 20 = .ok (.iload_n 1, 1) := by decide +kernel
theorem dX6_opens_21 : decode cX6_opens 21 = .ok (.bipush (-9), 2) := by decide +kernel
theorem dX6_opens_23 : decode cX6_opens 23 = .ok (.iastore, 1) := by decide +kernel
theorem dX6_opens_24 : decode cX6_opens 24 = .ok (.iinc 1 1, 3) := by decide +kernel
theorem dX6_opens_27 : decode cX6_opens 27 = .ok (.goto (-25), 3) := by decide +kernel
theorem dX6_opens_30 : decode cX6_opens 30 = .ok (.aload_n 0, 1) := by decide +kernel
theorem dX6_opens_31 : decode cX6_opens 31 = .ok (.aload_n 0, 1) := by decide +kernel
theorem dX6_opens_32 : decode cX6_opens 32 = .ok (.getfield 13, 3) := by decide +kernel
theorem dX6_opens_35 : decode cX6_opens 35 = .ok (.iconst 2, 1) := by decide +kernel
theorem dX6_opens_36 : decode cX6_opens 36 = .ok (.iaload, 1) := by decide +kernel
theorem dX6_opens_37 : decode cX6_opens 37 = .ok (.putfield 121, 3) := by decide +kernel
theorem dX6_opens_40 : decode cX6_opens 40 = .ok (.aload_n 0, 1) := by decide +kernel
theorem dX6_opens_41 : decode cX6_opens 41 = .ok (.iconst 0, 1) := by decide +kernel
theorem dX6_opens_42 : decode cX6_opens 42 = .ok (.putfield 124, 3) := by decide +kernel
theorem dX6_opens_45 : decode cX6_opens 45 = .ok (.aload_n 0, 1) := by decide +kernel
theorem dX6_opens_46 : decode cX6_opens 46 = .ok (.iconst 0, 1) := by decide +kernel
theorem dX6_opens_47 : decode cX6_opens 47 = .ok (.putfield 127, 3) := by decide +kernel
theorem dX6_opens_50 : decode cX6_opens 50 = .ok (.aload_n 0, 1) := by decide +kernel
theorem dX6_opens_51 : decode cX6_opens 51 = .ok (.sipush (-9999), 3) := by decide +kernel
theorem dX6_opens_54 : decode cX6_opens 54 = .ok (.putfield 130, 3) := by decide +kernel
theorem dX6_opens_57 : decode cX6_opens 57 = .ok (.aload_n 0, 1) := by decide +kernel
theorem dX6_opens_58 : decode cX6_opens 58 = .ok (.sipush (-9999), 3) := by decide +kernel
theorem dX6_opens_61 : decode cX6_opens 61 = .ok (.putfield 133, 3) := by decide +kernel
theorem dX6_opens_64 : decode cX6_opens 64 = .ok (.aload_n 0, 1) := by decide +kernel
theorem dX6_opens_65 : decode cX6_opens 65 = .ok (.iconst 0, 1) := by decide +kernel
theorem dX6_opens_66 : decode cX6_opens 66 = .ok (.putfield 136, 3) := by decide +kernel
theorem dX6_opens_69 : decode cX6_opens 69 = .ok (.iconst 0, 1) := by decide +kernel
theorem dX6_opens_70 : decode cX6_opens 70 = .ok (.istore_n 1, 1) := by decide +kernel
theorem dX6_opens_71 : decode cX6_opens 71 = .ok (.iload_n 1, 1) := by decide +kernel
theorem dX6_opens_72 : decode cX6_opens 72 = .ok (.bipush 6, 2) := by decide +kernel
theorem dX6_opens_74 : decode cX6_opens 74 = .ok (.if_icmp .ge 17, 3) := by decide +kernel
theorem dX6_opens_77 : decode cX6_opens 77 = .ok (.aload_n 0, 1) := by decide +kernel
theorem dX6_opens_78 : decode cX6_opens 78 = .ok (.getfield 31, 3) := by decide +kernel
theorem dX6_opens_81 : decode cX6_opens 81 = .ok (.iload_n 1, 1) := by decide +kernel
theorem dX6_opens_82 : decode cX6_opens 82 = .ok (.bipush (-9), 2) := by decide +kernel
theorem dX6_opens_84 : decode cX6_opens 84 = .ok (.iastore, 1) := by decide +kernel
theorem dX6_opens_85 : decode cX6_opens 85 = .ok (.iinc 1 1, 3) := by decide +kernel
theorem dX6_opens_88 : decode cX6_opens 88 = .ok (.goto (-17), 3) := by decide +kernel
theorem dX6_opens_91 : decode cX6_opens 91 = .ok (.return_, 1) := by decide +kernel
theorem dX6_ends_0 : decode cX6_ends 0 = .ok (.iconst 0, 1) := by decide +kernel
theorem dX6_ends_1 : decode cX6_ends 1 = .ok (.istore_n 2, 1) := by decide +kernel
theorem dX6_ends_2 : decode cX6_ends 2 = .ok (.iload_n 2, 1) := by decide +kernel
theorem dX6_ends_3 : decode cX6_ends 3 = .ok (.aload_n 0, 1) := by decide +kernel
end
section
/-! decode rows -/
theorem dX6_ends_4 : decode cX6_ends 4 = .ok (.getfield 13, 3) := by decide +kernel
theorem dX6_ends_7 : decode cX6_ends 7 = .ok (.iconst 1, 1) := by decide +kernel
theorem dX6_ends_8 : decode cX6_ends 8 = .ok (.iaload, 1) := by decide +kernel
theorem dX6_ends_9 : decode cX6_ends 9 = .ok (.if_icmp .ge 61, 3) := by decide +kernel
theorem dX6_ends_12 : decode cX6_ends 12 = .ok (.aload_n 0, 1) := by decide +kernel
theorem dX6_ends_13 : decode cX6_ends 13 = .ok (.getfield 28, 3) := by decide +kernel
theorem dX6_ends_16 : decode cX6_ends 16 = .ok (.iload_n 2, 1) := by decide +kernel
theorem dX6_ends_17 : decode cX6_ends 17 = .ok (.iaload, 1) := by decide +kernel
theorem dX6_ends_18 : decode cX6_ends 18 = .ok (.ifCond .lt 46, 3) := by decide +kernel
theorem dX6_ends_21 : decode cX6_ends 21 = .ok (.aload_n 0, 1) := by decide +kernel
theorem dX6_ends_22 : decode cX6_ends 22 = .ok (.getfield 28, 3) := by decide +kernel
theorem dX6_ends_25 : decode cX6_ends 25 = .ok (.iload_n 2, 1) := by decide +kernel
theorem dX6_ends_26 : decode cX6_ends 26 = .ok (.iaload, 1) := by decide +kernel
theorem dX6_ends_27 : decode cX6_ends 27 = .ok (.iload_n 1, 1) := by decide +kernel
theorem dX6_ends_28 : decode cX6_ends 28 = .ok (.if_icmp .le 6, 3) := by decide +kernel
theorem dX6_ends_31 : decode cX6_ends 31 = .ok (.goto 33, 3) := by decide +kernel
theorem dX6_ends_34 : decode cX6_ends 34 = .ok (.aload_n 0, 1) := by decide +kernel
theorem dX6_ends_35 : decode cX6_ends 35 = .ok (.getfield 28, 3) := by decide +kernel
theorem dX6_ends_38 : decode cX6_ends 38 = .ok (.iload_n 2, 1) := by decide +kernel
theorem dX6_ends_39 : decode cX6_ends 39 = .ok (.bipush (-9), 2) := by decide +kernel
theorem dX6_ends_41 : decode cX6_ends 41 = .ok (.iastore, 1) := by decide +kernel
theorem dX6_ends_42 : decode cX6_ends 42 = .ok (.aload_n 0, 1) := by decide +kernel
theorem dX6_ends_43 : decode cX6_ends 43 = .ok (.dup, 1) := by decide +kernel
theorem dX6_ends_44 : decode cX6_ends 44 = .ok (.getfield 124, 3) := by decide +kernel
theorem dX6_ends_47 : decode cX6_ends 47 = .ok (.aload_n 0, 1) := by decide +kernel
theorem dX6_ends_48 : decode cX6_ends 48 = .ok (.iload_n 2, 1) := by decide +kernel
theorem dX6_ends_49 : decode cX6_ends 49 = .ok (.invokevirtual 112, 3) := by decide +kernel
theorem dX6_ends_52 : decode cX6_ends 52 = .ok (.ifCond .le 7, 3) := by decide +kernel
theorem dX6_ends_55 : decode cX6_ends 55 = .ok (.iconst 1, 1) := by decide +kernel
theorem dX6_ends_56 : decode cX6_ends 56 = .ok (.goto 4, 3) := by decide +kernel
theorem dX6_ends_59 : decode cX6_ends 59 = .ok (.iconst 0, 1) := by decide +kernel
theorem dX6_ends_60 : decode cX6_ends 60 = .ok (.iadd, 1) := by decide +kernel
theorem dX6_ends_61 : decode cX6_ends 61 = .ok (.putfield 124, 3) := by decide +kernel
theorem dX6_ends_64 : decode cX6_ends 64 = .ok (.iinc 2 1, 3) := by decide +kernel
theorem dX6_ends_67 : decode cX6_ends 67 = .ok (.goto (-65), 3) := by decide +kernel
theorem dX6_ends_70 : decode cX6_ends 70 = .ok (.iconst 0, 1) := by decide +kernel
theorem dX6_ends_71 : decode cX6_ends 71 = .ok (.istore_n 2, 1) := by decide +kernel
theorem dX6_ends_72 : decode cX6_ends 72 = .ok (.iload_n 2, 1) := by decide +kernel
theorem dX6_ends_73 : decode cX6_ends 73 = .ok (.bipush 6, 2) := by decide +kernel
theorem dX6_ends_75 : decode cX6_ends 75 = .ok (.if_icmp .ge 49, 3) := by decide +kernel
theorem dX6_ends_78 : decode cX6_ends 78 = .ok (.aload_n 0, 1) := by decide +kernel
theorem dX6_ends_79 : decode cX6_ends 79 = .ok (.getfield 31, 3) := by decide +kernel
theorem dX6_ends_82 : decode cX6_ends 82 = .ok (.iload_n 2, 1) := by decide +kernel
theorem dX6_ends_83 : decode cX6_ends 83 = .ok (.iaload, 1) := by decide +kernel
theorem dX6_ends_84 : decode cX6_ends 84 = .ok (.ifCond .lt 34, 3) := by decide +kernel
theorem dX6_ends_87 : decode cX6_ends 87 = .ok (.aload_n 0, 1) := by decide +kernel
theorem dX6_ends_88 : decode cX6_ends 88 = .ok (.getfield 31, 3) := by decide +kernel
theorem dX6_ends_91 : decode cX6_ends 91 = .ok (.iload_n 2, 1) := by decide +kernel
theorem dX6_ends_92 : decode cX6_ends 92 = .ok (.iaload, 1) := by decide +kernel
theorem dX6_ends_93 : decode cX6_ends 93 = .ok (.iload_n 1, 1) := by decide +kernel
theorem dX6_ends_94 : decode cX6_ends 94 = .ok (.if_icmp .le 6, 3) := by decide +kernel
theorem dX6_ends_97 : decode cX6_ends 97 = .ok (.goto 21, 3) := by decide +kernel
theorem dX6_ends_100 : decode cX6_ends 100 = .ok (.aload_n 0, 1) := by decide +kernel
theorem dX6_ends_101 : decode cX6_ends 101 = .ok (.getfield 31, 3) := by decide +kernel
theorem dX6_ends_104 : decode cX6_ends 104 = .ok (.iload_n 2, 1) := by decide +kernel
theorem dX6_ends_105 : decode cX6_ends 105 = .ok (.bipush (-9), 2) := by decide +kernel
theorem dX6_ends_107 : decode cX6_ends 107 = .ok (.iastore, 1) := by decide +kernel
theorem dX6_ends_108 : decode cX6_ends 108 = .ok (.aload_n 0, 1) := by decide +kernel
theorem dX6_ends_109 : decode cX6_ends 109 = .ok (.dup, 1) := by decide +kernel
theorem dX6_ends_110 : decode cX6_ends 110 = .ok (.getfield 121, 3) := by decide +kernel
theorem dX6_ends_113 : decode cX6_ends 113 = .ok (.iconst 1, 1) := by decide +kernel
theorem dX6_ends_114 : decode cX6_ends 114 = .ok (.iadd, 1) := by decide +kernel
theorem dX6_ends_115 : decode cX6_ends 115 = .ok (.putfield 121, 3) := by decide +kernel
theorem dX6_ends_118 : decode cX6_ends 118 = .ok (.iinc 2 1, 3) := by decide +kernel
theorem dX6_ends_121 : decode cX6_ends 121 = .ok (.goto (-49), 3) := by decide +kernel
theorem dX6_ends_124 : decode cX6_ends 124 = .ok (.return_, 1) := by decide +kernel
theorem dX6_isUp_0 : decode cX6_isUp 0 = .ok (.iconst 0, 1) := by decide +kernel
theorem dX6_isUp_1 : decode cX6_isUp 1 = .ok (.istore_n 1, 1) := by decide +kernel
theorem dX6_isUp_2 : decode cX6_isUp 2 = .ok (.iconst 0, 1) := by decide +kernel
theorem dX6_isUp_3 : decode cX6_isUp 3 = .ok (.istore_n 2, 1) := by decide +kernel
theorem dX6_isUp_4 : decode cX6_isUp 4 = .ok (.iload_n 2, 1) := by decide +kernel
theorem dX6_isUp_5 : decode cX6_isUp 5 = .ok (.aload_n 0, 1) := by decide +kernel
theorem dX6_isUp_6 : decode cX6_isUp 6 = .ok (.getfield 13, 3) := by decide +kernel
theorem dX6_isUp_9 : decode cX6_isUp 9 = .ok (.iconst 1, 1) := by decide +kernel
theorem dX6_isUp_10 : decode cX6_isUp 10 = .ok (.iaload, 1) := by decide +kernel
theorem dX6_isUp_11 : decode cX6_isUp 11 = .ok (.if_icmp .ge 28, 3) := by decide +kernel
theorem dX6_isUp_14 : decode cX6_isUp 14 = .ok (.iload_n 1, 1) := by decide +kernel
theorem dX6_isUp_15 : decode cX6_isUp 15 = .ok (.ifCond .ne 12, 3) := by decide +kernel
theorem dX6_isUp_18 : decode cX6_isUp 18 = .ok (.aload_n 0, 1) := by decide +kernel
theorem dX6_isUp_19 : decode cX6_isUp 19 = .ok (.getfield 28, 3) := by decide +kernel
theorem dX6_isUp_22 : decode cX6_isUp 22 = .ok (.iload_n 2, 1) := by decide +kernel
theorem dX6_isUp_23 : decode cX6_isUp 23 = .ok (.iaload, 1) := by decide +kernel
theorem dX6_isUp_24 : decode cX6_isUp 24 = .ok (.ifCond .lt 7, 3) := by decide +kernel
theorem dX6_isUp_27 : decode cX6_isUp 27 = .ok (.iconst 1, 1) := by decide +kernel
theorem dX6_isUp_28 : decode cX6_isUp 28 = .ok (.goto 4, 3) := by decide +kernel
theorem dX6_isUp_31 : decode cX6_isUp 31 = .ok (.iconst 0, 1) := by decide +kernel
theorem dX6_isUp_32 : decode cX6_isUp 32 = .ok (.istore_n 1, 1) := by decide +kernel
theorem dX6_isUp_33 : decode cX6_isUp 33 = .ok (.iinc 2 1, 3) := by decide +kernel
theorem dX6_isUp_36 : decode cX6_isUp 36 = .ok (.goto (-32), 3) := by decide +kernel
theorem dX6_isUp_39 : decode cX6_isUp 39 = .ok (.iload_n 1, 1) := by decide +kernel
theorem dX6_isUp_40 : decode cX6_isUp 40 = .ok (.ireturn, 1) := by decide +kernel
theorem dX6_isDown_0 : decode cX6_isDown 0 = .ok (.iconst 0, 1) := by decide +kernel
theorem dX6_isDown_1 : decode cX6_isDown 1 = .ok (.istore_n 1, 1) := by decide +kernel
theorem dX6_isDown_2 : decode cX6_isDown 2 = .ok (.iconst 0, 1) := by decide +kernel
theorem dX6_isDown_3 : decode cX6_isDown 3 = .ok (.istore_n 2, 1) := by decide +kernel
theorem dX6_isDown_4 : decode cX6_isDown 4 = .ok (.iload_n 2, 1) := by decide +kernel
theorem dX6_isDown_5 : decode cX6_isDown 5 = .ok (.bipush 6, 2) := by decide +kernel
theorem dX6_isDown_7 : decode cX6_isDown 7 = .ok (.if_icmp .ge 28, 3) := by decide +kernel
theorem dX6_isDown_10 : decode cX6_isDown 10 = .ok (.iload_n 1, 1) := by decide +kernel
theorem dX6_isDown_11 : decode cX6_isDown 11 = .ok (.ifCond .ne 12, 3) := by decide +kernel
theorem dX6_isDown_14 : decode cX6_isDown 14 = .ok (.aload_n 0, 1) := by decide +kernel
theorem dX6_isDown_15 : decode cX6_isDown 15 = .ok (.getfield 31, 3) := by decide +kernel
theorem dX6_isDown_18 : decode cX6_isDown 18 = .ok (.iload_n 2, 1) := by decide +kernel
theorem dX6_isDown_19 : decode cX6_isDown 19 = .ok (.iaload, 1) := by decide +kernel
theorem dX6_isDown_20 : decode cX6_isDown 20 = .ok (.ifCond .lt 7, 3) := by decide +kernel
theorem dX6_isDown_23 : decode cX6_isDown 23 = .ok (.iconst 1, 1) := by decide +kernel
theorem dX6_isDown_24 : decode cX6_isDown 24 = .ok (.goto 4, 3) := by decide +kernel
theorem dX6_isDown_27 : decode cX6_isDown 27 = .ok (.iconst 0, 1) := by decide +kernel
theorem dX6_isDown_28 : decode cX6_isDown 28 = .ok (.istore_n 1, 1) := by decide +kernel
theorem dX6_isDown_29 : decode cX6_isDown 29 = .ok (.iinc 2 1, 3) := by decide +kernel
theorem dX6_isDown_32 : decode cX6_isDown 32 = .ok (.goto (-28), 3) := by decide +kernel
theorem dX6_isDown_35 : decode cX6_isDown 35 = .ok (.iload_n 1, 1) := by decide +kernel
theorem dX6_isDown_36 : decode cX6_isDown 36 = .ok (.ireturn, 1) := by decide +kernel
theorem dX6_singles_0 : decode cX6_singles 0 = .ok (.iconst 0, 1) := by decide +kernel
theorem dX6_singles_1 : decode cX6_singles 1 = .ok (.istore_n 1, 1) := by decide +kernel
theorem dX6_singles_2 : decode cX6_singles 2 = .ok (.iconst 0, 1) := by decide +kernel
theorem dX6_singles_3 : decode cX6_singles 3 = .ok (.istore_n 2, 1) := by decide +kernel
theorem dX6_singles_4 : decode cX6_singles 4 = .ok (.iload_n 2, 1) := by decide +kernel
theorem dX6_singles_5 : decode cX6_singles 5 = .ok (.aload_n 0, 1) := by decide +kernel
theorem dX6_singles_6 : decode cX6_singles 6 = .ok (.getfield 13, 3) := by decide +kernel
theorem dX6_singles_9 : decode cX6_singles 9 = .ok (.iconst 0, 1) := by decide +kernel
theorem dX6_singles_10 : decode cX6_singles 10 = .ok (.iaload, 1) := by decide +kernel
theorem dX6_singles_11 : decode cX6_singles 11 = .ok (.if_icmp .ge 27, 3) := by decide +kernel
theorem dX6_singles_14 : decode cX6_singles 14 = .ok (.iload_n 1, 1) := by decide +kernel
theorem dX6_singles_15 : decode cX6_singles 15 = .ok (.iconst 1, 1) := by decide +kernel
theorem dX6_singles_16 : decode cX6_singles 16 = .ok (.aload_n 0, 1) := by decide +kernel
theorem dX6_singles_17 : decode cX6_singles 17 = .ok (.getfield 13, 3) := by decide +kernel
theorem dX6_singles_20 : decode cX6_singles 20 = .ok (.bipush 13, 2) := by decide +kernel
theorem dX6_singles_22 : decode cX6_singles 22 = .ok (.iconst 2, 1) := by decide +kernel
theorem dX6_singles_23 : decode cX6_singles 23 = .ok (.iload_n 2, 1) := by decide +kernel
theorem dX6_singles_24 : decode cX6_singles 24 = .ok (.imul, 1) := by decide +kernel
theorem dX6_singles_25 : decode cX6_singles 25 = .ok (.iadd, 1) := by decide +kernel
theorem dX6_singles_26 : decode cX6_singles 26 = .ok (.iconst 1, 1) := by decide +kernel
theorem dX6_singles_27 : decode cX6_singles 27 = .ok (.iadd, 1) := by decide +kernel
theorem dX6_singles_28 : decode cX6_singles 28 = .ok (.iaload, 1) := by decide +kernel
theorem dX6_singles_29 : decode cX6_singles 29 = .ok (.isub, 1) := by decide +kernel
theorem dX6_singles_30 : decode cX6_singles 30 = .ok (.iadd, 1) := by decide +kernel
theorem dX6_singles_31 : decode cX6_singles 31 = .ok (.istore_n 1, 1) := by decide +kernel
theorem dX6_singles_32 : decode cX6_singles 32 = .ok (.iinc 2 1, 3) := by decide +kernel
theorem dX6_singles_35 : decode cX6_singles 35 = .ok (.goto (-31), 3) := by decide +kernel
theorem dX6_singles_38 : decode cX6_singles 38 = .ok (.iload_n 1, 1) := by decide +kernel
theorem dX6_singles_39 : decode cX6_singles 39 = .ok (.ireturn, 1) := by decide +kernel
theorem dX6_letsDown_0 : decode cX6_letsDown 0 = .ok (.iload_n 1, 1) := by decide +kernel
theorem dX6_letsDown_1 : decode cX6_letsDown 1 = .ok (.aload_n 0, 1) := by decide +kernel
theorem dX6_letsDown_2 : decode cX6_letsDown 2 = .ok (.getfield 136, 3) := by decide +kernel
theorem dX6_letsDown_5 : decode cX6_letsDown 5 = .ok (.if_icmp .lt 37, 3) := by decide +kernel
theorem dX6_letsDown_8 : decode cX6_letsDown 8 = .ok (.iload_n 1, 1) := by decide +kernel
theorem dX6_letsDown_9 : decode cX6_letsDown 9 = .ok (.aload_n 0, 1) := by decide +kernel
theorem dX6_letsDown_10 : decode cX6_letsDown 10 = .ok (.getfield 133, 3) := by decide +kernel
theorem dX6_letsDown_13 : decode cX6_letsDown 13 = .ok (.isub, 1) := by decide +kernel
theorem dX6_letsDown_14 : decode cX6_letsDown 14 = .ok (.aload_n 0, 1) := by decide +kernel
theorem dX6_letsDown_15 : decode cX6_letsDown 15 = .ok (.getfield 13, 3) := by decide +kernel
theorem dX6_letsDown_18 : decode cX6_letsDown 18 = .ok (.bipush 9, 2) := by decide +kernel
theorem dX6_letsDown_20 : decode cX6_letsDown 20 = .ok (.iaload, 1) := by decide +kernel
theorem dX6_letsDown_21 : decode cX6_letsDown 21 = .ok (.if_icmp .lt 21, 3) := by decide +kernel
theorem dX6_letsDown_24 : decode cX6_letsDown 24 = .ok (.aload_n 0, 1) := by decide +kernel
theorem dX6_letsDown_25 : decode cX6_letsDown 25 = .ok (.invokevirtual 139, 3) := by decide +kernel
theorem dX6_letsDown_28 : decode cX6_letsDown 28 = .ok (.ifCond .eq 10, 3) := by decide +kernel
theorem dX6_letsDown_31 : decode cX6_letsDown 31 = .ok (.aload_n 0, 1) := by decide +kernel
theorem dX6_letsDown_32 : decode cX6_letsDown 32 = .ok (.invokevirtual 142, 3) := by decide +kernel
theorem dX6_letsDown_35 : decode cX6_letsDown 35 = .ok (.ifCond .ne 7, 3) := by decide +kernel
theorem dX6_letsDown_38 : decode cX6_letsDown 38 = .ok (.iconst 1, 1) := by decide +kernel
theorem dX6_letsDown_39 : decode cX6_letsDown 39 = .ok (.goto 4, 3) := by decide +kernel
theorem dX6_letsDown_42 : decode cX6_letsDown 42 = .ok (.iconst 0, 1) := by decide +kernel
theorem dX6_letsDown_43 : decode cX6_letsDown 43 = .ok (.ireturn, 1) := by decide +kernel
theorem dX6_letsUp_0 : decode cX6_letsUp 0 = .ok (.iload_n 1, 1) := by decide +kernel
theorem dX6_letsUp_1 : decode cX6_letsUp 1 = .ok (.aload_n 0, 1) := by decide +kernel
theorem dX6_letsUp_2 : decode cX6_letsUp 2 = .ok (.getfield 136, 3) := by decide +kernel
theorem dX6_letsUp_5 : decode cX6_letsUp 5 = .ok (.if_icmp .lt 33, 3) := by decide +kernel
theorem dX6_letsUp_8 : decode cX6_letsUp 8 = .ok (.iload_n 1, 1) := by decide +kernel
theorem dX6_letsUp_9 : decode cX6_letsUp 9 = .ok (.aload_n 0, 1) := by decide +kernel
theorem dX6_letsUp_10 : decode cX6_letsUp 10 = .ok (.getfield 130, 3) := by decide +kernel
theorem dX6_letsUp_13 : decode cX6_letsUp 13 = .ok (.isub, 1) := by decide +kernel
theorem dX6_letsUp_14 : decode cX6_letsUp 14 = .ok (.aload_n 0, 1) := by decide +kernel
theorem dX6_letsUp_15 : decode cX6_letsUp 15 = .ok (.getfield 13, 3) := by decide +kernel
theorem dX6_letsUp_18 : decode cX6_letsUp 18 = .ok (.bipush 9, 2) := by decide +kernel
theorem dX6_letsUp_20 : decode cX6_letsUp 20 = .ok (.iaload, 1) := by decide +kernel
theorem dX6_letsUp_21 : decode cX6_letsUp 21 = .ok (.if_icmp .lt 17, 3) := by decide +kernel
theorem dX6_letsUp_24 : decode cX6_letsUp 24 = .ok (.aload_n 0, 1) := by decide +kernel
theorem dX6_letsUp_25 : decode cX6_letsUp 25 = .ok (.invokevirtual 139, 3) := by decide +kernel
theorem dX6_letsUp_28 : decode cX6_letsUp 28 = .ok (.ifCond .le 12, 3) := by decide +kernel
theorem dX6_letsUp_31 : decode cX6_letsUp 31 = .ok (.aload_n 0, 1) := by decide +kernel
theorem dX6_letsUp_32 : decode cX6_letsUp 32 = .ok (.invokevirtual 145, 3) := by decide +kernel
theorem dX6_letsUp_35 : decode cX6_letsUp 35 = .ok (.ifCond .eq 5, 3) := by decide +kernel
theorem dX6_letsUp_38 : decode cX6_letsUp 38 = .ok (.iconst 0, 1) := by decide +kernel
theorem dX6_letsUp_39 : decode cX6_letsUp 39 = .ok (.ireturn, 1) := by decide +kernel
theorem dX6_letsUp_40 : decode cX6_letsUp 40 = .ok (.aload_n 0, 1) := by decide +kernel
theorem dX6_letsUp_41 : decode cX6_letsUp 41 = .ok (.iload_n 2, 1) := by decide +kernel
theorem dX6_letsUp_42 : decode cX6_letsUp 42 = .ok (.invokevirtual 112, 3) := by decide +kernel
theorem dX6_letsUp_45 : decode cX6_letsUp 45 = .ok (.iconst 2, 1) := by decide +kernel
theorem dX6_letsUp_46 : decode cX6_letsUp 46 = .ok (.if_icmp .ne 17, 3) := by decide +kernel
theorem dX6_letsUp_49 : decode cX6_letsUp 49 = .ok (.aload_n 0, 1) := by decide +kernel
theorem dX6_letsUp_50 : decode cX6_letsUp 50 = .ok (.invokevirtual 142, 3) := by decide +kernel
theorem dX6_letsUp_53 : decode cX6_letsUp 53 = .ok (.ifCond .ne 14, 3) := by decide +kernel
theorem dX6_letsUp_56 : decode cX6_letsUp 56 = .ok (.aload_n 0, 1) := by decide +kernel
theorem dX6_letsUp_57 : decode cX6_letsUp 57 = .ok (.invokevirtual 145, 3) := by decide +kernel
theorem dX6_letsUp_60 : decode cX6_letsUp 60 = .ok (.ifCond .ne 7, 3) := by decide +kernel
theorem dX6_letsUp_63 : decode cX6_letsUp 63 = .ok (.iconst 1, 1) := by decide +kernel
theorem dX6_letsUp_64 : decode cX6_letsUp 64 = .ok (.goto 4, 3) := by decide +kernel
theorem dX6_letsUp_67 : decode cX6_letsUp 67 = .ok (.iconst 0, 1) := by decide +kernel
theorem dX6_letsUp_68 : decode cX6_letsUp 68 = .ok (.ireturn, 1) := by decide +kernel
theorem dX6_goesDown_0 : decode cX6_goesDown 0 = .ok (.iconst 0, 1) := by decide +kernel
theorem dX6_goesDown_1 : decode cX6_goesDown 1 = .ok (.istore_n 2, 1) := by decide +kernel
theorem dX6_goesDown_2 : decode cX6_goesDown 2 = .ok (.aload_n 0, 1) := by decide +kernel
theorem dX6_goesDown_3 : decode cX6_goesDown 3 = .ok (.getfield 31, 3) := by decide +kernel
theorem dX6_goesDown_6 : decode cX6_goesDown 6 = .ok (.iload_n 2, 1) := by decide +kernel
theorem dX6_goesDown_7 : decode cX6_goesDown 7 = .ok (.iaload, 1) := by decide +kernel
theorem dX6_goesDown_8 : decode cX6_goesDown 8 = .ok (.ifCond .lt 9, 3) := by decide +kernel
theorem dX6_goesDown_11 : decode cX6_goesDown 11 = .ok (.iinc 2 1, 3) := by decide +kernel
theorem dX6_goesDown_14 : decode cX6_goesDown 14 = .ok (.goto (-12), 3) := by decide +kernel
theorem dX6_goesDown_17 : decode cX6_goesDown 17 = .ok (.aload_n 0, 1) := by decide +kernel
theorem dX6_goesDown_18 : decode cX6_goesDown 18 = .ok (.dup, 1) := by decide +kernel
theorem dX6_goesDown_19 : decode cX6_goesDown 19 = .ok (.getfield 124, 3) := by decide +kernel
theorem dX6_goesDown_22 : decode cX6_goesDown 22 = .ok (.iconst 1, 1) := by decide +kernel
theorem dX6_goesDown_23 : decode cX6_goesDown 23 = .ok (.isub, 1) := by decide +kernel
theorem dX6_goesDown_24 : decode cX6_goesDown 24 = .ok (.putfield 124, 3) := by decide +kernel
theorem dX6_goesDown_27 : decode cX6_goesDown 27 = .ok (.aload_n 0, 1) := by decide +kernel
theorem dX6_goesDown_28 : decode cX6_goesDown 28 = .ok (.getfield 31, 3) := by decide +kernel
theorem dX6_goesDown_31 : decode cX6_goesDown 31 = .ok (.iload_n 2, 1) := by decide +kernel
theorem dX6_goesDown_32 : decode cX6_goesDown 32 = .ok (.iload_n 1, 1) := by decide +kernel
theorem dX6_goesDown_33 : decode cX6_goesDown 33 = .ok (.aload_n 0, 1) := by decide +kernel
theorem dX6_goesDown_34 : decode cX6_goesDown 34 = .ok (.invokevirtual 115, 3) := by decide +kernel
theorem dX6_goesDown_37 : decode cX6_goesDown 37 = .ok (.iadd, 1) := by decide +kernel
theorem dX6_goesDown_38 : decode cX6_goesDown 38 = .ok (.iastore, 1) := by decide +kernel
theorem dX6_goesDown_39 : decode cX6_goesDown 39 = .ok (.aload_n 0, 1) := by decide +kernel
theorem dX6_goesDown_40 : decode cX6_goesDown 40 = .ok (.iload_n 1, 1) := by decide +kernel
theorem dX6_goesDown_41 : decode cX6_goesDown 41 = .ok (.putfield 133, 3) := by decide +kernel
theorem dX6_goesDown_44 : decode cX6_goesDown 44 = .ok (.aload_n 0, 1) := by decide +kernel
theorem dX6_goesDown_45 : decode cX6_goesDown 45 = .ok (.dup, 1) := by decide +kernel
theorem dX6_goesDown_46 : decode cX6_goesDown 46 = .ok (.getfield 127, 3) := by decide +kernel
theorem dX6_goesDown_49 : decode cX6_goesDown 49 = .ok (.iconst 1, 1) := by decide +kernel
theorem dX6_goesDown_50 : decode cX6_goesDown 50 = .ok (.iadd, 1) := by decide +kernel
theorem dX6_goesDown_51 : decode cX6_goesDown 51 = .ok (.putfield 127, 3) := by decide +kernel
theorem dX6_goesDown_54 : decode cX6_goesDown 54 = .ok (.return_, 1) := by decide +kernel
theorem dX6_goesUp_0 : decode cX6_goesUp 0 = .ok (.aload_n 0, 1) := by decide +kernel
theorem dX6_goesUp_1 : decode cX6_goesUp 1 = .ok (.dup, 1) := by decide +kernel
theorem dX6_goesUp_2 : decode cX6_goesUp 2 = .ok (.getfield 121, 3) := by decide +kernel
theorem dX6_goesUp_5 : decode cX6_goesUp 5 = .ok (.aload_n 0, 1) := by decide +kernel
theorem dX6_goesUp_6 : decode cX6_goesUp 6 = .ok (.iload_n 2, 1) := by decide +kernel
theorem dX6_goesUp_7 : decode cX6_goesUp 7 = .ok (.invokevirtual 112, 3) := by decide +kernel
theorem dX6_goesUp_10 : decode cX6_goesUp 10 = .ok (.ifCond .le 7, 3) := by decide +kernel
theorem dX6_goesUp_13 : decode cX6_goesUp 13 = .ok (.iconst 1, 1) := by decide +kernel
theorem dX6_goesUp_14 : decode cX6_goesUp 14 = .ok (.goto 4, 3) := by decide +kernel
theorem dX6_goesUp_17 : decode cX6_goesUp 17 = .ok (.iconst 0, 1) := by decide +kernel
theorem dX6_goesUp_18 : decode cX6_goesUp 18 = .ok (.isub, 1) := by decide +kernel
theorem dX6_goesUp_19 : decode cX6_goesUp 19 = .ok (.putfield 121, 3) := by decide +kernel
theorem dX6_goesUp_22 : decode cX6_goesUp 22 = .ok (.aload_n 0, 1) := by decide +kernel
theorem dX6_goesUp_23 : decode cX6_goesUp 23 = .ok (.getfield 28, 3) := by decide +kernel
theorem dX6_goesUp_26 : decode cX6_goesUp 26 = .ok (.iload_n 2, 1) := by decide +kernel
theorem dX6_goesUp_27 : decode cX6_goesUp 27 = .ok (.iload_n 1, 1) := by decide +kernel
theorem dX6_goesUp_28 : decode cX6_goesUp 28 = .ok (.aload_n 0, 1) := by decide +kernel
theorem dX6_goesUp_29 : decode cX6_goesUp 29 = .ok (.iload_n 2, 1) := by decide +kernel
theorem dX6_goesUp_30 : decode cX6_goesUp 30 = .ok (.invokevirtual 118, 3) := by decide +kernel
theorem dX6_goesUp_33 : decode cX6_goesUp 33 = .ok (.iadd, 1) := by decide +kernel
theorem dX6_goesUp_34 : decode cX6_goesUp 34 = .ok (.iastore, 1) := by decide +kernel
theorem dX6_goesUp_35 : decode cX6_goesUp 35 = .ok (.aload_n 0, 1) := by decide +kernel
theorem dX6_goesUp_36 : decode cX6_goesUp 36 = .ok (.aload_n 0, 1) := by decide +kernel
theorem dX6_goesUp_37 : decode cX6_goesUp 37 = .ok (.iload_n 2, 1) := by decide +kernel
theorem dX6_goesUp_38 : decode cX6_goesUp 38 = .ok (.invokevirtual 112, 3) := by decide +kernel
theorem dX6_goesUp_41 : decode cX6_goesUp 41 = .ok (.iconst 2, 1) := by decide +kernel
theorem dX6_goesUp_42 : decode cX6_goesUp 42 = .ok (.if_icmp .ne 12, 3) := by decide +kernel
theorem dX6_goesUp_45 : decode cX6_goesUp 45 = .ok (.aload_n 0, 1) := by decide +kernel
theorem dX6_goesUp_46 : decode cX6_goesUp 46 = .ok (.getfield 28, 3) := by decide +kernel
theorem dX6_goesUp_49 : decode cX6_goesUp 49 = .ok (.iload_n 2, 1) := by decide +kernel
theorem dX6_goesUp_50 : decode cX6_goesUp 50 = .ok (.iaload, 1) := by decide +kernel
theorem dX6_goesUp_51 : decode cX6_goesUp 51 = .ok (.goto 7, 3) := by decide +kernel
theorem dX6_goesUp_54 : decode cX6_goesUp 54 = .ok (.aload_n 0, 1) := by decide +kernel
theorem dX6_goesUp_55 : decode cX6_goesUp 55 = .ok (.getfield 136, 3) := by decide +kernel
theorem dX6_goesUp_58 : decode cX6_goesUp 58 = .ok (.putfield 136, 3) := by decide +kernel
theorem dX6_goesUp_61 : decode cX6_goesUp 61 = .ok (.aload_n 0, 1) := by decide +kernel
theorem dX6_goesUp_62 : decode cX6_goesUp 62 = .ok (.getfield 34, 3) := by decide +kernel
theorem dX6_goesUp_65 : decode cX6_goesUp 65 = .ok (.iload_n 2, 1) := by decide +kernel
theorem dX6_goesUp_66 : decode cX6_goesUp 66 = .ok (.iload_n 1, 1) := by decide +kernel
theorem dX6_goesUp_67 : decode cX6_goesUp 67 = .ok (.iastore, 1) := by decide +kernel
theorem dX6_goesUp_68 : decode cX6_goesUp 68 = .ok (.aload_n 0, 1) := by decide +kernel
theorem dX6_goesUp_69 : decode cX6_goesUp 69 = .ok (.iload_n 1, 1) := by decide +kernel
theorem dX6_goesUp_70 : decode cX6_goesUp 70 = .ok (.putfield 130, 3) := by decide +kernel
theorem dX6_goesUp_73 : decode cX6_goesUp 73 = .ok (.return_, 1) := by decide +kernel
theorem dX6_hasEngine_0 : decode cX6_hasEngine 0 = .ok (.aload_n 0, 1) := by decide +kernel
theorem dX6_hasEngine_1 : decode cX6_hasEngine 1 = .ok (.iload_n 1, 1) := by decide +kernel
theorem dX6_hasEngine_2 : decode cX6_hasEngine 2 = .ok (.invokevirtual 112, 3) := by decide +kernel
theorem dX6_hasEngine_5 : decode cX6_hasEngine 5 = .ok (.ifCond .eq 10, 3) := by decide +kernel
theorem dX6_hasEngine_8 : decode cX6_hasEngine 8 = .ok (.aload_n 0, 1) := by decide +kernel
theorem dX6_hasEngine_9 : decode cX6_hasEngine 9 = .ok (.getfield 121, 3) := by decide +kernel
theorem dX6_hasEngine_12 : decode cX6_hasEngine 12 = .ok (.ifCond .le 7, 3) := by decide +kernel
theorem dX6_hasEngine_15 : decode cX6_hasEngine 15 = .ok (.iconst 1, 1) := by decide +kernel
theorem dX6_hasEngine_16 : decode cX6_hasEngine 16 = .ok (.goto 4, 3) := by decide +kernel
theorem dX6_hasEngine_19 : decode cX6_hasEngine 19 = .ok (.iconst 0, 1) := by decide +kernel
theorem dX6_hasEngine_20 : decode cX6_hasEngine 20 = .ok (.ireturn, 1) := by decide +kernel
theorem dX6_waits_0 : decode cX6_waits 0 = .ok (.aload_n 0, 1) := by decide +kernel
theorem dX6_waits_1 : decode cX6_waits 1 = .ok (.getfield 34, 3) := by decide +kernel
theorem dX6_waits_4 : decode cX6_waits 4 = .ok (.iload_n 2, 1) := by decide +kernel
theorem dX6_waits_5 : decode cX6_waits 5 = .ok (.iaload, 1) := by decide +kernel
theorem dX6_waits_6 : decode cX6_waits 6 = .ok (.ifCond .ge 25, 3) := by decide +kernel
theorem dX6_waits_9 : decode cX6_waits 9 = .ok (.aload_n 0, 1) := by decide +kernel
theorem dX6_waits_10 : decode cX6_waits 10 = .ok (.iload_n 2, 1) := by decide +kernel
theorem dX6_waits_11 : decode cX6_waits 11 = .ok (.invokevirtual 148, 3) := by decide +kernel
theorem dX6_waits_14 : decode cX6_waits 14 = .ok (.iload_n 1, 1) := by decide +kernel
theorem dX6_waits_15 : decode cX6_waits 15 = .ok (.if_icmp .gt 16, 3) := by decide +kernel
theorem dX6_waits_18 : decode cX6_waits 18 = .ok (.aload_n 0, 1) := by decide +kernel
theorem dX6_waits_19 : decode cX6_waits 19 = .ok (.iload_n 2, 1) := by decide +kernel
theorem dX6_waits_20 : decode cX6_waits 20 = .ok (.invokevirtual 112, 3) := by decide +kernel
theorem dX6_waits_23 : decode cX6_waits 23 = .ok (.iconst 3, 1) := by decide +kernel
theorem dX6_waits_24 : decode cX6_waits 24 = .ok (.if_icmp .eq 7, 3) := by decide +kernel
theorem dX6_waits_27 : decode cX6_waits 27 = .ok (.iconst 1, 1) := by decide +kernel
theorem dX6_waits_28 : decode cX6_waits 28 = .ok (.goto 4, 3) := by decide +kernel
theorem dX6_waits_31 : decode cX6_waits 31 = .ok (.iconst 0, 1) := by decide +kernel
theorem dX6_waits_32 : decode cX6_waits 32 = .ok (.ireturn, 1) := by decide +kernel
theorem dX6_placeIn_0 : decode cX6_placeIn 0 = .ok (.iconst 0, 1) := by decide +kernel
theorem dX6_placeIn_1 : decode cX6_placeIn 1 = .ok (.istore_n 2, 1) := by decide +kernel
theorem dX6_placeIn_2 : decode cX6_placeIn 2 = .ok (.iload_n 2, 1) := by decide +kernel
theorem dX6_placeIn_3 : decode cX6_placeIn 3 = .ok (.aload_n 0, 1) := by decide +kernel
theorem dX6_placeIn_4 : decode cX6_placeIn 4 = .ok (.getfield 13, 3) := by decide +kernel
theorem dX6_placeIn_7 : decode cX6_placeIn 7 = .ok (.iconst 3, 1) := by decide +kernel
theorem dX6_placeIn_8 : decode cX6_placeIn 8 = .ok (.iaload, 1) := by decide +kernel
theorem dX6_placeIn_9 : decode cX6_placeIn 9 = .ok (.if_icmp .ge 24, 3) := by decide +kernel
theorem dX6_placeIn_12 : decode cX6_placeIn 12 = .ok (.aload_n 0, 1) := by decide +kernel
theorem dX6_placeIn_13 : decode cX6_placeIn 13 = .ok (.getfield 13, 3) := by decide +kernel
theorem dX6_placeIn_16 : decode cX6_placeIn 16 = .ok (.bipush 39, 2) := by decide +kernel
theorem dX6_placeIn_18 : decode cX6_placeIn 18 = .ok (.iload_n 2, 1) := by decide +kernel
theorem dX6_placeIn_19 : decode cX6_placeIn 19 = .ok (.iadd, 1) := by decide +kernel
theorem dX6_placeIn_20 : decode cX6_placeIn 20 = .ok (.iaload, 1) := by decide +kernel
theorem dX6_placeIn_21 : decode cX6_placeIn 21 = .ok (.iload_n 1, 1) := by decide +kernel
theorem dX6_placeIn_22 : decode cX6_placeIn 22 = .ok (.if_icmp .ne 5, 3) := by decide +kernel
theorem dX6_placeIn_25 : decode cX6_placeIn 25 = .ok (.iload_n 2, 1) := by decide +kernel
theorem dX6_placeIn_26 : decode cX6_placeIn 26 = .ok (.ireturn, 1) := by decide +kernel
theorem dX6_placeIn_27 : decode cX6_placeIn 27 = .ok (.iinc 2 1, 3) := by decide +kernel
theorem dX6_placeIn_30 : decode cX6_placeIn 30 = .ok (.goto (-28), 3) := by decide +kernel
theorem dX6_placeIn_33 : decode cX6_placeIn 33 = .ok (.bipush 8, 2) := by decide +kernel
theorem dX6_placeIn_35 : decode cX6_placeIn 35 = .ok (.ireturn, 1) := by decide +kernel
theorem dX6_isAhead_0 : decode cX6_isAhead 0 = .ok (.aload_n 0, 1) := by decide +kernel
theorem dX6_isAhead_1 : decode cX6_isAhead 1 = .ok (.getfield 13, 3) := by decide +kernel
theorem dX6_isAhead_4 : decode cX6_isAhead 4 = .ok (.bipush 11, 2) := by decide +kernel
theorem dX6_isAhead_6 : decode cX6_isAhead 6 = .ok (.iaload, 1) := by decide +kernel
theorem dX6_isAhead_7 : decode cX6_isAhead 7 = .ok (.iconst 1, 1) := by decide +kernel
theorem dX6_isAhead_8 : decode cX6_isAhead 8 = .ok (.if_icmp .ne 12, 3) := by decide +kernel
theorem dX6_isAhead_11 : decode cX6_isAhead 11 = .ok (.aload_n 0, 1) := by decide +kernel
theorem dX6_isAhead_12 : decode cX6_isAhead 12 = .ok (.iload_n 1, 1) := by decide +kernel
theorem dX6_isAhead_13 : decode cX6_isAhead 13 = .ok (.invokevirtual 106, 3) := by decide +kernel
theorem dX6_isAhead_16 : decode cX6_isAhead 16 = .ok (.ineg, 1) := by decide +kernel
theorem dX6_isAhead_17 : decode cX6_isAhead 17 = .ok (.goto 42, 3) := by decide +kernel
theorem dX6_isAhead_20 : decode cX6_isAhead 20 = .ok (.aload_n 0, 1) := by decide +kernel
theorem dX6_isAhead_21 : decode cX6_isAhead 21 = .ok (.getfield 13, 3) := by decide +kernel
theorem dX6_isAhead_24 : decode cX6_isAhead 24 = .ok (.bipush 11, 2) := by decide +kernel
theorem dX6_isAhead_26 : decode cX6_isAhead 26 = .ok (.iaload, 1) := by decide +kernel
theorem dX6_isAhead_27 : decode cX6_isAhead 27 = .ok (.iconst 2, 1) := by decide +kernel
theorem dX6_isAhead_28 : decode cX6_isAhead 28 = .ok (.if_icmp .ne 11, 3) := by decide +kernel
theorem dX6_isAhead_31 : decode cX6_isAhead 31 = .ok (.aload_n 0, 1) := by decide +kernel
theorem dX6_isAhead_32 : decode cX6_isAhead 32 = .ok (.iload_n 1, 1) := by decide +kernel
theorem dX6_isAhead_33 : decode cX6_isAhead 33 = .ok (.invokevirtual 106, 3) := by decide +kernel
theorem dX6_isAhead_36 : decode cX6_isAhead 36 = .ok (.goto 23, 3) := by decide +kernel
theorem dX6_isAhead_39 : decode cX6_isAhead 39 = .ok (.aload_n 0, 1) := by decide +kernel
theorem dX6_isAhead_40 : decode cX6_isAhead 40 = .ok (.getfield 13, 3) := by decide +kernel
theorem dX6_isAhead_43 : decode cX6_isAhead 43 = .ok (.bipush 11, 2) := by decide +kernel
theorem dX6_isAhead_45 : decode cX6_isAhead 45 = .ok (.iaload, 1) := by decide +kernel
theorem dX6_isAhead_46 : decode cX6_isAhead 46 = .ok (.iconst 3, 1) := by decide +kernel
theorem dX6_isAhead_47 : decode cX6_isAhead 47 = .ok (.if_icmp .ne 11, 3) := by decide +kernel
theorem dX6_isAhead_50 : decode cX6_isAhead 50 = .ok (.aload_n 0, 1) := by decide +kernel
theorem dX6_isAhead_51 : decode cX6_isAhead 51 = .ok (.iload_n 1, 1) := by decide +kernel
theorem dX6_isAhead_52 : decode cX6_isAhead 52 = .ok (.invokevirtual 151, 3) := by decide +kernel
theorem dX6_isAhead_55 : decode cX6_isAhead 55 = .ok (.goto 4, 3) := by decide +kernel
theorem dX6_isAhead_58 : decode cX6_isAhead 58 = .ok (.iconst 0, 1) := by decide +kernel
theorem dX6_isAhead_59 : decode cX6_isAhead 59 = .ok (.istore_n 3, 1) := by decide +kernel
theorem dX6_isAhead_60 : decode cX6_isAhead 60 = .ok (.aload_n 0, 1) := by decide +kernel
theorem dX6_isAhead_61 : decode cX6_isAhead 61 = .ok (.getfield 13, 3) := by decide +kernel
theorem dX6_isAhead_64 : decode cX6_isAhead 64 = .ok (.bipush 11, 2) := by decide +kernel
theorem dX6_isAhead_66 : decode cX6_isAhead 66 = .ok (.iaload, 1) := by decide +kernel
theorem dX6_isAhead_67 : decode cX6_isAhead 67 = .ok (.iconst 1, 1) := by decide +kernel
theorem dX6_isAhead_68 : decode cX6_isAhead 68 = .ok (.if_icmp .ne 12, 3) := by decide +kernel
theorem dX6_isAhead_71 : decode cX6_isAhead 71 = .ok (.aload_n 0, 1) := by decide +kernel
theorem dX6_isAhead_72 : decode cX6_isAhead 72 = .ok (.iload_n 2, 1) := by decide +kernel
theorem dX6_isAhead_73 : decode cX6_isAhead 73 = .ok (.invokevirtual 106, 3) := by decide +kernel
theorem dX6_isAhead_76 : decode cX6_isAhead 76 = .ok (.ineg, 1) := by decide +kernel
theorem dX6_isAhead_77 : decode cX6_isAhead 77 = .ok (.goto 42, 3) := by decide +kernel
theorem dX6_isAhead_80 : decode cX6_isAhead 80 = .ok (.aload_n 0, 1) := by decide +kernel
theorem dX6_isAhead_81 : decode cX6_isAhead 81 = .ok (.getfield 13, 3) := by decide +kernel
theorem dX6_isAhead_84 : decode cX6_isAhead 84 = .ok (.bipush 11, 2) := by decide +kernel
theorem dX6_isAhead_86 : decode cX6_isAhead 86 = .ok (.iaload, 1) := by decide +kernel
theorem dX6_isAhead_87 : decode cX6_isAhead 87 = .ok (.iconst 2, 1) := by decide +kernel
theorem dX6_isAhead_88 : decode cX6_isAhead 88 = .ok (.if_icmp .ne 11, 3) := by decide +kernel
theorem dX6_isAhead_91 : decode cX6_isAhead 91 = .ok (.aload_n 0, 1) := by decide +kernel
theorem dX6_isAhead_92 : decode cX6_isAhead 92 = .ok (.iload_n 2, 1) := by decide +kernel
theorem dX6_isAhead_93 : decode cX6_isAhead 93 = .ok (.invokevirtual 106, 3) := by decide +kernel
theorem dX6_isAhead_96 : decode cX6_isAhead 96 = .ok (.goto 23, 3) := by decide +kernel
theorem dX6_isAhead_99 : decode cX6_isAhead 99 = .ok (.aload_n 0, 1) := by decide +kernel
theorem dX6_isAhead_100 : decode cX6_isAhead 100 = .ok (.getfield 13, 3) := by decide +kernel
theorem dX6_isAhead_103 : decode cX6_isAhead 103 = .ok (.bipush 11, 2) := by decide +kernel
theorem dX6_isAhead_105 : decode cX6_isAhead 105 = .ok (.iaload, 1) := by decide +kernel
theorem dX6_isAhead_106 : decode cX6_isAhead 106 = .ok (.iconst 3, 1) := by decide +kernel
theorem dX6_isAhead_107 : decode cX6_isAhead 107 = .ok (.if_icmp .ne 11, 3) := by decide +kernel
theorem dX6_isAhead_110 : decode cX6_isAhead 110 = .ok (.aload_n 0, 1) := by decide +kernel
theorem dX6_isAhead_111 : decode cX6_isAhead 111 = .ok (.iload_n 2, 1) := by decide +kernel
theorem dX6_isAhead_112 : decode cX6_isAhead 112 = .ok (.invokevirtual 151, 3) := by decide +kernel
theorem dX6_isAhead_115 : decode cX6_isAhead 115 = .ok (.goto 4, 3) := by decide +kernel
theorem dX6_isAhead_118 : decode cX6_isAhead 118 = .ok (.iconst 0, 1) := by decide +kernel
theorem dX6_isAhead_119 : decode cX6_isAhead 119 = .ok (.istore 4, 2) := by decide +kernel
theorem dX6_isAhead_121 : decode cX6_isAhead 121 = .ok (.iload_n 3, 1) := by decide +kernel
theorem dX6_isAhead_122 : decode cX6_isAhead 122 = .ok (.iload 4, 2) := by decide +kernel
theorem dX6_isAhead_124 : decode cX6_isAhead 124 = .ok (.if_icmp .eq 15, 3) := by decide +kernel
theorem dX6_isAhead_127 : decode cX6_isAhead 127 = .ok (.iload_n 3, 1) := by decide +kernel
theorem dX6_isAhead_128 : decode cX6_isAhead 128 = .ok (.iload 4, 2) := by decide +kernel
theorem dX6_isAhead_130 : decode cX6_isAhead 130 = .ok (.if_icmp .ge 7, 3) := by decide +kernel
theorem dX6_isAhead_133 : decode cX6_isAhead 133 = .ok (.iconst 1, 1) := by decide +kernel
theorem dX6_isAhead_134 : decode cX6_isAhead 134 = .ok (.goto 4, 3) := by decide +kernel
theorem dX6_isAhead_137 : decode cX6_isAhead 137 = .ok (.iconst 0, 1) := by decide +kernel
theorem dX6_isAhead_138 : decode cX6_isAhead 138 = .ok (.ireturn, 1) := by decide +kernel
theorem dX6_isAhead_139 : decode cX6_isAhead 139 = .ok (.aload_n 0, 1) := by decide +kernel
theorem dX6_isAhead_140 : decode cX6_isAhead 140 = .ok (.iload_n 1, 1) := by decide +kernel
theorem dX6_isAhead_141 : decode cX6_isAhead 141 = .ok (.invokevirtual 148, 3) := by decide +kernel
theorem dX6_isAhead_144 : decode cX6_isAhead 144 = .ok (.aload_n 0, 1) := by decide +kernel
theorem dX6_isAhead_145 : decode cX6_isAhead 145 = .ok (.iload_n 2, 1) := by decide +kernel
theorem dX6_isAhead_146 : decode cX6_isAhead 146 = .ok (.invokevirtual 148, 3) := by decide +kernel
theorem dX6_isAhead_149 : decode cX6_isAhead 149 = .ok (.if_icmp .eq 24, 3) := by decide +kernel
theorem dX6_isAhead_152 : decode cX6_isAhead 152 = .ok (.aload_n 0, 1) := by decide +kernel
theorem dX6_isAhead_153 : decode cX6_isAhead 153 = .ok (.iload_n 1, 1) := by decide +kernel
theorem dX6_isAhead_154 : decode cX6_isAhead 154 = .ok (.invokevirtual 148, 3) := by decide +kernel
theorem dX6_isAhead_157 : decode cX6_isAhead 157 = .ok (.aload_n 0, 1) := by decide +kernel
theorem dX6_isAhead_158 : decode cX6_isAhead 158 = .ok (.iload_n 2, 1) := by decide +kernel
theorem dX6_isAhead_159 : decode cX6_isAhead 159 = .ok (.invokevirtual 148, 3) := by decide +kernel
theorem dX6_isAhead_162 : decode cX6_isAhead 162 = .ok (.if_icmp .ge 7, 3) := by decide +kernel
theorem dX6_isAhead_165 : decode cX6_isAhead 165 = .ok (.iconst 1, 1) := by decide +kernel
theorem dX6_isAhead_166 : decode cX6_isAhead 166 = .ok (.goto 17, 3) := by decide +kernel
theorem dX6_isAhead_169 : decode cX6_isAhead 169 = .ok (.iconst 0, 1) := by decide +kernel
theorem dX6_isAhead_170 : decode cX6_isAhead 170 = .ok (.goto 13, 3) := by decide +kernel
theorem dX6_isAhead_173 : decode cX6_isAhead 173 = .ok (.iload_n 1, 1) := by decide +kernel
theorem dX6_isAhead_174 : decode cX6_isAhead 174 = .ok (.iload_n 2, 1) := by decide +kernel
theorem dX6_isAhead_175 : decode cX6_isAhead 175 = .ok (.if_icmp .ge 7, 3) := by decide +kernel
theorem dX6_isAhead_178 : decode cX6_isAhead 178 = .ok (.iconst 1, 1) := by decide +kernel
theorem dX6_isAhead_179 : decode cX6_isAhead 179 = .ok (.goto 4, 3) := by decide +kernel
theorem dX6_isAhead_182 : decode cX6_isAhead 182 = .ok (.iconst 0, 1) := by decide +kernel
theorem dX6_isAhead_183 : decode cX6_isAhead 183 = .ok (.ireturn, 1) := by decide +kernel
theorem dX6_minute_0 : decode cX6_minute 0 = .ok (.aload_n 0, 1) := by decide +kernel
theorem dX6_minute_1 : decode cX6_minute 1 = .ok (.iload_n 1, 1) := by decide +kernel
theorem dX6_minute_2 : decode cX6_minute 2 = .ok (.invokevirtual 154, 3) := by decide +kernel
theorem dX6_minute_5 : decode cX6_minute 5 = .ok (.iconst 0, 1) := by decide +kernel
theorem dX6_minute_6 : decode cX6_minute 6 = .ok (.istore_n 2, 1) := by decide +kernel
theorem dX6_minute_7 : decode cX6_minute 7 = .ok (.iconst 0, 1) := by decide +kernel
theorem dX6_minute_8 : decode cX6_minute 8 = .ok (.istore_n 3, 1) := by decide +kernel
theorem dX6_minute_9 : decode cX6_minute 9 = .ok (.iload_n 3, 1) := by decide +kernel
theorem dX6_minute_10 : decode cX6_minute 10 = .ok (.aload_n 0, 1) := by decide +kernel
theorem dX6_minute_11 : decode cX6_minute 11 = .ok (.getfield 13, 3) := by decide +kernel
theorem dX6_minute_14 : decode cX6_minute 14 = .ok (.iconst 1, 1) := by decide +kernel
theorem dX6_minute_15 : decode cX6_minute 15 = .ok (.iaload, 1) := by decide +kernel
theorem dX6_minute_16 : decode cX6_minute 16 = .ok (.if_icmp .ge 28, 3) := by decide +kernel
theorem dX6_minute_19 : decode cX6_minute 19 = .ok (.iload_n 2, 1) := by decide +kernel
theorem dX6_minute_20 : decode cX6_minute 20 = .ok (.ifCond .ne 12, 3) := by decide +kernel
theorem dX6_minute_23 : decode cX6_minute 23 = .ok (.aload_n 0, 1) := by decide +kernel
theorem dX6_minute_24 : decode cX6_minute 24 = .ok (.iload_n 1, 1) := by decide +kernel
theorem dX6_minute_25 : decode cX6_minute 25 = .ok (.iload_n 3, 1) := by decide +kernel
theorem dX6_minute_26 : decode cX6_minute 26 = .ok (.invokevirtual 158, 3) := by decide +kernel
theorem dX6_minute_29 : decode cX6_minute 29 = .ok (.ifCond .eq 7, 3) := by decide +kernel
theorem dX6_minute_32 : decode cX6_minute 32 = .ok (.iconst 1, 1) := by decide +kernel
theorem dX6_minute_33 : decode cX6_minute 33 = .ok (.goto 4, 3) := by decide +kernel
theorem dX6_minute_36 : decode cX6_minute 36 = .ok (.iconst 0, 1) := by decide +kernel
theorem dX6_minute_37 : decode cX6_minute 37 = .ok (.istore_n 2, 1) := by decide +kernel
theorem dX6_minute_38 : decode cX6_minute 38 = .ok (.iinc 3 1, 3) := by decide +kernel
theorem dX6_minute_41 : decode cX6_minute 41 = .ok (.goto (-32), 3) := by decide +kernel
theorem dX6_minute_44 : decode cX6_minute 44 = .ok (.aload_n 0, 1) := by decide +kernel
theorem dX6_minute_45 : decode cX6_minute 45 = .ok (.getfield 124, 3) := by decide +kernel
theorem dX6_minute_48 : decode cX6_minute 48 = .ok (.ifCond .le 38, 3) := by decide +kernel
theorem dX6_minute_51 : decode cX6_minute 51 = .ok (.aload_n 0, 1) := by decide +kernel
theorem dX6_minute_52 : decode cX6_minute 52 = .ok (.iload_n 1, 1) := by decide +kernel
theorem dX6_minute_53 : decode cX6_minute 53 = .ok (.invokevirtual 161, 3) := by decide +kernel
theorem dX6_minute_56 : decode cX6_minute 56 = .ok (.ifCond .eq 30, 3) := by decide +kernel
theorem dX6_minute_59 : decode cX6_minute 59 = .ok (.aload_n 0, 1) := by decide +kernel
theorem dX6_minute_60 : decode cX6_minute 60 = .ok (.getfield 13, 3) := by decide +kernel
theorem dX6_minute_63 : decode cX6_minute 63 = .ok (.bipush 12, 2) := by decide +kernel
theorem dX6_minute_65 : decode cX6_minute 65 = .ok (.iaload, 1) := by decide +kernel
theorem dX6_minute_66 : decode cX6_minute 66 = .ok (.ifCond .eq 14, 3) := by decide +kernel
theorem dX6_minute_69 : decode cX6_minute 69 = .ok (.aload_n 0, 1) := by decide +kernel
theorem dX6_minute_70 : decode cX6_minute 70 = .ok (.getfield 121, 3) := by decide +kernel
theorem dX6_minute_73 : decode cX6_minute 73 = .ok (.ifCond .eq 7, 3) := by decide +kernel
theorem dX6_minute_76 : decode cX6_minute 76 = .ok (.iload_n 2, 1) := by decide +kernel
theorem dX6_minute_77 : decode cX6_minute 77 = .ok (.ifCond .ne 9, 3) := by decide +kernel
theorem dX6_minute_80 : decode cX6_minute 80 = .ok (.aload_n 0, 1) := by decide +kernel
theorem dX6_minute_81 : decode cX6_minute 81 = .ok (.iload_n 1, 1) := by decide +kernel
theorem dX6_minute_82 : decode cX6_minute 82 = .ok (.invokevirtual 164, 3) := by decide +kernel
theorem dX6_minute_85 : decode cX6_minute 85 = .ok (.return_, 1) := by decide +kernel
theorem dX6_minute_86 : decode cX6_minute 86 = .ok (.bipush (-9), 2) := by decide +kernel
theorem dX6_minute_88 : decode cX6_minute 88 = .ok (.istore_n 3, 1) := by decide +kernel
theorem dX6_minute_89 : decode cX6_minute 89 = .ok (.iconst 0, 1) := by decide +kernel
theorem dX6_minute_90 : decode cX6_minute 90 = .ok (.istore 4, 2) := by decide +kernel
theorem dX6_minute_92 : decode cX6_minute 92 = .ok (.iload 4, 2) := by decide +kernel
theorem dX6_minute_94 : decode cX6_minute 94 = .ok (.aload_n 0, 1) := by decide +kernel
theorem dX6_minute_95 : decode cX6_minute 95 = .ok (.getfield 13, 3) := by decide +kernel
theorem dX6_minute_98 : decode cX6_minute 98 = .ok (.iconst 1, 1) := by decide +kernel
theorem dX6_minute_99 : decode cX6_minute 99 = .ok (.iaload, 1) := by decide +kernel
theorem dX6_minute_100 : decode cX6_minute 100 = .ok (.if_icmp .ge 62, 3) := by decide +kernel
theorem dX6_minute_103 : decode cX6_minute 103 = .ok (.aload_n 0, 1) := by decide +kernel
theorem dX6_minute_104 : decode cX6_minute 104 = .ok (.iload_n 1, 1) := by decide +kernel
theorem dX6_minute_105 : decode cX6_minute 105 = .ok (.iload 4, 2) := by decide +kernel
theorem dX6_minute_107 : decode cX6_minute 107 = .ok (.invokevirtual 158, 3) := by decide +kernel
theorem dX6_minute_110 : decode cX6_minute 110 = .ok (.ifCond .eq 46, 3) := by decide +kernel
theorem dX6_minute_113 : decode cX6_minute 113 = .ok (.aload_n 0, 1) := by decide +kernel
theorem dX6_minute_114 : decode cX6_minute 114 = .ok (.iload 4, 2) := by decide +kernel
theorem dX6_minute_116 : decode cX6_minute 116 = .ok (.invokevirtual 167, 3) := by decide +kernel
theorem dX6_minute_119 : decode cX6_minute 119 = .ok (.ifCond .eq 37, 3) := by decide +kernel
theorem dX6_minute_122 : decode cX6_minute 122 = .ok (.aload_n 0, 1) := by decide +kernel
theorem dX6_minute_123 : decode cX6_minute 123 = .ok (.iload_n 1, 1) := by decide +kernel
theorem dX6_minute_124 : decode cX6_minute 124 = .ok (.iload 4, 2) := by decide +kernel
theorem dX6_minute_126 : decode cX6_minute 126 = .ok (.invokevirtual 170, 3) := by decide +kernel
theorem dX6_minute_129 : decode cX6_minute 129 = .ok (.ifCond .ne 6, 3) := by decide +kernel
theorem dX6_minute_132 : decode cX6_minute 132 = .ok (.goto 24, 3) := by decide +kernel
theorem dX6_minute_135 : decode cX6_minute 135 = .ok (.iload_n 3, 1) := by decide +kernel
theorem dX6_minute_136 : decode cX6_minute 136 = .ok (.ifCond .lt 13, 3) := by decide +kernel
theorem dX6_minute_139 : decode cX6_minute 139 = .ok (.aload_n 0, 1) := by decide +kernel
theorem dX6_minute_140 : decode cX6_minute 140 = .ok (.iload 4, 2) := by decide +kernel
theorem dX6_minute_142 : decode cX6_minute 142 = .ok (.iload_n 3, 1) := by decide +kernel
theorem dX6_minute_143 : decode cX6_minute 143 = .ok (.invokevirtual 173, 3) := by decide +kernel
theorem dX6_minute_146 : decode cX6_minute 146 = .ok (.ifCond .eq 8, 3) := by decide +kernel
theorem dX6_minute_149 : decode cX6_minute 149 = .ok (.iload 4, 2) := by decide +kernel
theorem dX6_minute_151 : decode cX6_minute 151 = .ok (.goto 4, 3) := by decide +kernel
theorem dX6_minute_154 : decode cX6_minute 154 = .ok (.iload_n 3, 1) := by decide +kernel
theorem dX6_minute_155 : decode cX6_minute 155 = .ok (.istore_n 3, 1) := by decide +kernel
theorem dX6_minute_156 : decode cX6_minute 156 = .ok (.iinc 4 1, 3) := by decide +kernel
theorem dX6_minute_159 : decode cX6_minute 159 = .ok (.goto (-67), 3) := by decide +kernel
theorem dX6_minute_162 : decode cX6_minute 162 = .ok (.iload_n 3, 1) := by decide +kernel
theorem dX6_minute_163 : decode cX6_minute 163 = .ok (.ifCond .lt 9, 3) := by decide +kernel
theorem dX6_minute_166 : decode cX6_minute 166 = .ok (.aload_n 0, 1) := by decide +kernel
theorem dX6_minute_167 : decode cX6_minute 167 = .ok (.iload_n 1, 1) := by decide +kernel
theorem dX6_minute_168 : decode cX6_minute 168 = .ok (.iload_n 3, 1) := by decide +kernel
theorem dX6_minute_169 : decode cX6_minute 169 = .ok (.invokevirtual 176, 3) := by decide +kernel
theorem dX6_minute_172 : decode cX6_minute 172 = .ok (.return_, 1) := by decide +kernel
theorem dX6_day_0 : decode cX6_day 0 = .ok (.aload_n 0, 1) := by decide +kernel
theorem dX6_day_1 : decode cX6_day 1 = .ok (.invokevirtual 180, 3) := by decide +kernel
theorem dX6_day_4 : decode cX6_day 4 = .ok (.iconst 0, 1) := by decide +kernel
theorem dX6_day_5 : decode cX6_day 5 = .ok (.istore_n 1, 1) := by decide +kernel
theorem dX6_day_6 : decode cX6_day 6 = .ok (.iload_n 1, 1) := by decide +kernel
theorem dX6_day_7 : decode cX6_day 7 = .ok (.sipush 1440, 3) := by decide +kernel
theorem dX6_day_10 : decode cX6_day 10 = .ok (.if_icmp .gt 14, 3) := by decide +kernel
theorem dX6_day_13 : decode cX6_day 13 = .ok (.aload_n 0, 1) := by decide +kernel
theorem dX6_day_14 : decode cX6_day 14 = .ok (.iload_n 1, 1) := by decide +kernel
theorem dX6_day_15 : decode cX6_day 15 = .ok (.invokevirtual 183, 3) := by decide +kernel
theorem dX6_day_18 : decode cX6_day 18 = .ok (.iinc 1 1, 3) := by decide +kernel
theorem dX6_day_21 : decode cX6_day 21 = .ok (.goto (-15), 3) := by decide +kernel
theorem dX6_day_24 : decode cX6_day 24 = .ok (.return_, 1) := by decide +kernel
theorem dX6_waited_0 : decode cX6_waited 0 = .ok (.aload_n 0, 1) := by decide +kernel
theorem dX6_waited_1 : decode cX6_waited 1 = .ok (.iload_n 1, 1) := by decide +kernel
theorem dX6_waited_2 : decode cX6_waited 2 = .ok (.invokevirtual 90, 3) := by decide +kernel
theorem dX6_waited_5 : decode cX6_waited 5 = .ok (.ifCond .ne 9, 3) := by decide +kernel
theorem dX6_waited_8 : decode cX6_waited 8 = .ok (.aload_n 0, 1) := by decide +kernel
theorem dX6_waited_9 : decode cX6_waited 9 = .ok (.iconst (-1), 1) := by decide +kernel
theorem dX6_waited_10 : decode cX6_waited 10 = .ok (.invokevirtual 50, 3) := by decide +kernel
theorem dX6_waited_13 : decode cX6_waited 13 = .ok (.ireturn, 1) := by decide +kernel
theorem dX6_waited_14 : decode cX6_waited 14 = .ok (.aload_n 0, 1) := by decide +kernel
theorem dX6_waited_15 : decode cX6_waited 15 = .ok (.invokevirtual 186, 3) := by decide +kernel
theorem dX6_waited_18 : decode cX6_waited 18 = .ok (.aload_n 0, 1) := by decide +kernel
theorem dX6_waited_19 : decode cX6_waited 19 = .ok (.getfield 34, 3) := by decide +kernel
theorem dX6_waited_22 : decode cX6_waited 22 = .ok (.iload_n 1, 1) := by decide +kernel
theorem dX6_waited_23 : decode cX6_waited 23 = .ok (.iaload, 1) := by decide +kernel
theorem dX6_waited_24 : decode cX6_waited 24 = .ok (.ifCond .ge 8, 3) := by decide +kernel
theorem dX6_waited_27 : decode cX6_waited 27 = .ok (.bipush (-9), 2) := by decide +kernel
theorem dX6_waited_29 : decode cX6_waited 29 = .ok (.goto 15, 3) := by decide +kernel
theorem dX6_waited_32 : decode cX6_waited 32 = .ok (.aload_n 0, 1) := by decide +kernel
theorem dX6_waited_33 : decode cX6_waited 33 = .ok (.getfield 34, 3) := by decide +kernel
theorem dX6_waited_36 : decode cX6_waited 36 = .ok (.iload_n 1, 1) := by decide +kernel
theorem dX6_waited_37 : decode cX6_waited 37 = .ok (.iaload, 1) := by decide +kernel
theorem dX6_waited_38 : decode cX6_waited 38 = .ok (.aload_n 0, 1) := by decide +kernel
theorem dX6_waited_39 : decode cX6_waited 39 = .ok (.iload_n 1, 1) := by decide +kernel
theorem dX6_waited_40 : decode cX6_waited 40 = .ok (.invokevirtual 148, 3) := by decide +kernel
theorem dX6_waited_43 : decode cX6_waited 43 = .ok (.isub, 1) := by decide +kernel
theorem dX6_waited_44 : decode cX6_waited 44 = .ok (.ireturn, 1) := by decide +kernel
theorem dX6_began_0 : decode cX6_began 0 = .ok (.aload_n 0, 1) := by decide +kernel
theorem dX6_began_1 : decode cX6_began 1 = .ok (.iload_n 1, 1) := by decide +kernel
theorem dX6_began_2 : decode cX6_began 2 = .ok (.invokevirtual 90, 3) := by decide +kernel
theorem dX6_began_5 : decode cX6_began 5 = .ok (.ifCond .ne 9, 3) := by decide +kernel
theorem dX6_began_8 : decode cX6_began 8 = .ok (.aload_n 0, 1) := by decide +kernel
theorem dX6_began_9 : decode cX6_began 9 = .ok (.iconst (-1), 1) := by decide +kernel
theorem dX6_began_10 : decode cX6_began 10 = .ok (.invokevirtual 50, 3) := by decide +kernel
theorem dX6_began_13 : decode cX6_began 13 = .ok (.ireturn, 1) := by decide +kernel
theorem dX6_began_14 : decode cX6_began 14 = .ok (.aload_n 0, 1) := by decide +kernel
theorem dX6_began_15 : decode cX6_began 15 = .ok (.invokevirtual 186, 3) := by decide +kernel
theorem dX6_began_18 : decode cX6_began 18 = .ok (.aload_n 0, 1) := by decide +kernel
theorem dX6_began_19 : decode cX6_began 19 = .ok (.getfield 34, 3) := by decide +kernel
theorem dX6_began_22 : decode cX6_began 22 = .ok (.iload_n 1, 1) := by decide +kernel
theorem dX6_began_23 : decode cX6_began 23 = .ok (.iaload, 1) := by decide +kernel
theorem dX6_began_24 : decode cX6_began 24 = .ok (.ireturn, 1) := by decide +kernel
theorem dX6_allOf_0 : decode cX6_allOf 0 = .ok (.aload_n 0, 1) := by decide +kernel
theorem dX6_allOf_1 : decode cX6_allOf 1 = .ok (.invokevirtual 186, 3) := by decide +kernel
theorem dX6_allOf_4 : decode cX6_allOf 4 = .ok (.iconst 0, 1) := by decide +kernel
theorem dX6_allOf_5 : decode cX6_allOf 5 = .ok (.istore_n 1, 1) := by decide +kernel
theorem dX6_allOf_6 : decode cX6_allOf 6 = .ok (.iconst 0, 1) := by decide +kernel
theorem dX6_allOf_7 : decode cX6_allOf 7 = .ok (.istore_n 2, 1) := by decide +kernel
theorem dX6_allOf_8 : decode cX6_allOf 8 = .ok (.iload_n 2, 1) := by decide +kernel
theorem dX6_allOf_9 : decode cX6_allOf 9 = .ok (.aload_n 0, 1) := by decide +kernel
theorem dX6_allOf_10 : decode cX6_allOf 10 = .ok (.getfield 13, 3) := by decide +kernel
theorem dX6_allOf_13 : decode cX6_allOf 13 = .ok (.iconst 1, 1) := by decide +kernel
theorem dX6_allOf_14 : decode cX6_allOf 14 = .ok (.iaload, 1) := by decide +kernel
theorem dX6_allOf_15 : decode cX6_allOf 15 = .ok (.if_icmp .ge 58, 3) := by decide +kernel
theorem dX6_allOf_18 : decode cX6_allOf 18 = .ok (.iload_n 1, 1) := by decide +kernel
theorem dX6_allOf_19 : decode cX6_allOf 19 = .ok (.aload_n 0, 1) := by decide +kernel
theorem dX6_allOf_20 : decode cX6_allOf 20 = .ok (.getfield 34, 3) := by decide +kernel
theorem dX6_allOf_23 : decode cX6_allOf 23 = .ok (.iload_n 2, 1) := by decide +kernel
theorem dX6_allOf_24 : decode cX6_allOf 24 = .ok (.iaload, 1) := by decide +kernel
theorem dX6_allOf_25 : decode cX6_allOf 25 = .ok (.ifCond .lt 18, 3) := by decide +kernel
theorem dX6_allOf_28 : decode cX6_allOf 28 = .ok (.aload_n 0, 1) := by decide +kernel
theorem dX6_allOf_29 : decode cX6_allOf 29 = .ok (.getfield 34, 3) := by decide +kernel
theorem dX6_allOf_32 : decode cX6_allOf 32 = .ok (.iload_n 2, 1) := by decide +kernel
theorem dX6_allOf_33 : decode cX6_allOf 33 = .ok (.iaload, 1) := by decide +kernel
theorem dX6_allOf_34 : decode cX6_allOf 34 = .ok (.aload_n 0, 1) := by decide +kernel
theorem dX6_allOf_35 : decode cX6_allOf 35 = .ok (.iload_n 2, 1) := by decide +kernel
theorem dX6_allOf_36 : decode cX6_allOf 36 = .ok (.invokevirtual 148, 3) := by decide +kernel
theorem dX6_allOf_39 : decode cX6_allOf 39 = .ok (.isub, 1) := by decide +kernel
theorem dX6_allOf_40 : decode cX6_allOf 40 = .ok (.goto 25, 3) := by decide +kernel
theorem dX6_allOf_43 : decode cX6_allOf 43 = .ok (.aload_n 0, 1) := by decide +kernel
theorem dX6_allOf_44 : decode cX6_allOf 44 = .ok (.iload_n 2, 1) := by decide +kernel
theorem dX6_allOf_45 : decode cX6_allOf 45 = .ok (.invokevirtual 112, 3) := by decide +kernel
theorem dX6_allOf_48 : decode cX6_allOf 48 = .ok (.iconst 3, 1) := by decide +kernel
theorem dX6_allOf_49 : decode cX6_allOf 49 = .ok (.if_icmp .ne 7, 3) := by decide +kernel
theorem dX6_allOf_52 : decode cX6_allOf 52 = .ok (.iconst 0, 1) := by decide +kernel
theorem dX6_allOf_53 : decode cX6_allOf 53 = .ok (.goto 12, 3) := by decide +kernel
theorem dX6_allOf_56 : decode cX6_allOf 56 = .ok (.sipush 1440, 3) := by decide +kernel
theorem dX6_allOf_59 : decode cX6_allOf 59 = .ok (.aload_n 0, 1) := by decide +kernel
theorem dX6_allOf_60 : decode cX6_allOf 60 = .ok (.iload_n 2, 1) := by decide +kernel
theorem dX6_allOf_61 : decode cX6_allOf 61 = .ok (.invokevirtual 148, 3) := by decide +kernel
theorem dX6_allOf_64 : decode cX6_allOf 64 = .ok (.isub, 1) := by decide +kernel
theorem dX6_allOf_65 : decode cX6_allOf 65 = .ok (.iadd, 1) := by decide +kernel
theorem dX6_allOf_66 : decode cX6_allOf 66 = .ok (.istore_n 1, 1) := by decide +kernel
theorem dX6_allOf_67 : decode cX6_allOf 67 = .ok (.iinc 2 1, 3) := by decide +kernel
theorem dX6_allOf_70 : decode cX6_allOf 70 = .ok (.goto (-62), 3) := by decide +kernel
theorem dX6_allOf_73 : decode cX6_allOf 73 = .ok (.iload_n 1, 1) := by decide +kernel
theorem dX6_allOf_74 : decode cX6_allOf 74 = .ok (.ireturn, 1) := by decide +kernel
theorem dX6_allWaited_0 : decode cX6_allWaited 0 = .ok (.aload_n 0, 1) := by decide +kernel
theorem dX6_allWaited_1 : decode cX6_allWaited 1 = .ok (.invokevirtual 189, 3) := by decide +kernel
theorem dX6_allWaited_4 : decode cX6_allWaited 4 = .ok (.ireturn, 1) := by decide +kernel
theorem dX6_downs_0 : decode cX6_downs 0 = .ok (.aload_n 0, 1) := by decide +kernel
theorem dX6_downs_1 : decode cX6_downs 1 = .ok (.invokevirtual 186, 3) := by decide +kernel
theorem dX6_downs_4 : decode cX6_downs 4 = .ok (.aload_n 0, 1) := by decide +kernel
theorem dX6_downs_5 : decode cX6_downs 5 = .ok (.getfield 127, 3) := by decide +kernel
theorem dX6_downs_8 : decode cX6_downs 8 = .ok (.ireturn, 1) := by decide +kernel
theorem dX6_keeps_0 : decode cX6_keeps 0 = .ok (.iconst 0, 1) := by decide +kernel
theorem dX6_keeps_1 : decode cX6_keeps 1 = .ok (.istore_n 1, 1) := by decide +kernel
theorem dX6_keeps_2 : decode cX6_keeps 2 = .ok (.iload_n 1, 1) := by decide +kernel
theorem dX6_keeps_3 : decode cX6_keeps 3 = .ok (.bipush 47, 2) := by decide +kernel
theorem dX6_keeps_5 : decode cX6_keeps 5 = .ok (.if_icmp .ge 21, 3) := by decide +kernel
theorem dX6_keeps_8 : decode cX6_keeps 8 = .ok (.aload_n 0, 1) := by decide +kernel
theorem dX6_keeps_9 : decode cX6_keeps 9 = .ok (.getfield 37, 3) := by decide +kernel
theorem dX6_keeps_12 : decode cX6_keeps 12 = .ok (.iload_n 1, 1) := by decide +kernel
theorem dX6_keeps_13 : decode cX6_keeps 13 = .ok (.aload_n 0, 1) := by decide +kernel
theorem dX6_keeps_14 : decode cX6_keeps 14 = .ok (.getfield 13, 3) := by decide +kernel
theorem dX6_keeps_17 : decode cX6_keeps 17 = .ok (.iload_n 1, 1) := by decide +kernel
theorem dX6_keeps_18 : decode cX6_keeps 18 = .ok (.iaload, 1) := by decide +kernel
theorem dX6_keeps_19 : decode cX6_keeps 19 = .ok (.iastore, 1) := by decide +kernel
theorem dX6_keeps_20 : decode cX6_keeps 20 = .ok (.iinc 1 1, 3) := by decide +kernel
theorem dX6_keeps_23 : decode cX6_keeps 23 = .ok (.goto (-21), 3) := by decide +kernel
theorem dX6_keeps_26 : decode cX6_keeps 26 = .ok (.return_, 1) := by decide +kernel
theorem dX6_putsBack_0 : decode cX6_putsBack 0 = .ok (.iconst 0, 1) := by decide +kernel
theorem dX6_putsBack_1 : decode cX6_putsBack 1 = .ok (.istore_n 1, 1) := by decide +kernel
theorem dX6_putsBack_2 : decode cX6_putsBack 2 = .ok (.iload_n 1, 1) := by decide +kernel
theorem dX6_putsBack_3 : decode cX6_putsBack 3 = .ok (.bipush 47, 2) := by decide +kernel
theorem dX6_putsBack_5 : decode cX6_putsBack 5 = .ok (.if_icmp .ge 21, 3) := by decide +kernel
theorem dX6_putsBack_8 : decode cX6_putsBack 8 = .ok (.aload_n 0, 1) := by decide +kernel
theorem dX6_putsBack_9 : decode cX6_putsBack 9 = .ok (.getfield 13, 3) := by decide +kernel
theorem dX6_putsBack_12 : decode cX6_putsBack 12 = .ok (.iload_n 1, 1) := by decide +kernel
theorem dX6_putsBack_13 : decode cX6_putsBack 13 = .ok (.aload_n 0, 1) := by decide +kernel
theorem dX6_putsBack_14 : decode cX6_putsBack 14 = .ok (.getfield 37, 3) := by decide +kernel
theorem dX6_putsBack_17 : decode cX6_putsBack 17 = .ok (.iload_n 1, 1) := by decide +kernel
theorem dX6_putsBack_18 : decode cX6_putsBack 18 = .ok (.iaload, 1) := by decide +kernel
theorem dX6_putsBack_19 : decode cX6_putsBack 19 = .ok (.iastore, 1) := by decide +kernel
theorem dX6_putsBack_20 : decode cX6_putsBack 20 = .ok (.iinc 1 1, 3) := by decide +kernel
theorem dX6_putsBack_23 : decode cX6_putsBack 23 = .ok (.goto (-21), 3) := by decide +kernel
theorem dX6_putsBack_26 : decode cX6_putsBack 26 = .ok (.return_, 1) := by decide +kernel
theorem dX6_goesOn_0 : decode cX6_goesOn 0 = .ok (.iload_n 1, 1) := by decide +kernel
theorem dX6_goesOn_1 : decode cX6_goesOn 1 = .ok (.aload_n 0, 1) := by decide +kernel
theorem dX6_goesOn_2 : decode cX6_goesOn 2 = .ok (.getfield 13, 3) := by decide +kernel
theorem dX6_goesOn_5 : decode cX6_goesOn 5 = .ok (.iconst 1, 1) := by decide +kernel
theorem dX6_goesOn_6 : decode cX6_goesOn 6 = .ok (.iaload, 1) := by decide +kernel
theorem dX6_goesOn_7 : decode cX6_goesOn 7 = .ok (.if_icmp .ne 62, 3) := by decide +kernel
theorem dX6_goesOn_10 : decode cX6_goesOn 10 = .ok (.aload_n 0, 1) := by decide +kernel
theorem dX6_goesOn_11 : decode cX6_goesOn 11 = .ok (.invokevirtual 189, 3) := by decide +kernel
theorem dX6_goesOn_14 : decode cX6_goesOn 14 = .ok (.istore_n 3, 1) := by decide +kernel
theorem dX6_goesOn_15 : decode cX6_goesOn 15 = .ok (.aload_n 0, 1) := by decide +kernel
theorem dX6_goesOn_16 : decode cX6_goesOn 16 = .ok (.getfield 192, 3) := by decide +kernel
theorem dX6_goesOn_19 : decode cX6_goesOn 19 = .ok (.ifCond .lt 12, 3) := by decide +kernel
theorem dX6_goesOn_22 : decode cX6_goesOn 22 = .ok (.iload_n 3, 1) := by decide +kernel
theorem dX6_goesOn_23 : decode cX6_goesOn 23 = .ok (.aload_n 0, 1) := by decide +kernel
theorem dX6_goesOn_24 : decode cX6_goesOn 24 = .ok (.getfield 192, 3) := by decide +kernel
theorem dX6_goesOn_27 : decode cX6_goesOn 27 = .ok (.if_icmp .lt 4, 3) := by decide +kernel
theorem dX6_goesOn_30 : decode cX6_goesOn 30 = .ok (.return_, 1) := by decide +kernel
theorem dX6_goesOn_31 : decode cX6_goesOn 31 = .ok (.aload_n 0, 1) := by decide +kernel
theorem dX6_goesOn_32 : decode cX6_goesOn 32 = .ok (.iload_n 3, 1) := by decide +kernel
theorem dX6_goesOn_33 : decode cX6_goesOn 33 = .ok (.putfield 192, 3) := by decide +kernel
theorem dX6_goesOn_36 : decode cX6_goesOn 36 = .ok (.iconst 0, 1) := by decide +kernel
theorem dX6_goesOn_37 : decode cX6_goesOn 37 = .ok (.istore 4, 2) := by decide +kernel
theorem dX6_goesOn_39 : decode cX6_goesOn 39 = .ok (.iload 4, 2) := by decide +kernel
theorem dX6_goesOn_41 : decode cX6_goesOn 41 = .ok (.iload_n 1, 1) := by decide +kernel
theorem dX6_goesOn_42 : decode cX6_goesOn 42 = .ok (.if_icmp .ge 26, 3) := by decide +kernel
theorem dX6_goesOn_45 : decode cX6_goesOn 45 = .ok (.aload_n 0, 1) := by decide +kernel
theorem dX6_goesOn_46 : decode cX6_goesOn 46 = .ok (.getfield 40, 3) := by decide +kernel
theorem dX6_goesOn_49 : decode cX6_goesOn 49 = .ok (.iload 4, 2) := by decide +kernel
theorem dX6_goesOn_51 : decode cX6_goesOn 51 = .ok (.aload_n 0, 1) := by decide +kernel
theorem dX6_goesOn_52 : decode cX6_goesOn 52 = .ok (.getfield 13, 3) := by decide +kernel
theorem dX6_goesOn_55 : decode cX6_goesOn 55 = .ok (.bipush 39, 2) := by decide +kernel
theorem dX6_goesOn_57 : decode cX6_goesOn 57 = .ok (.iload 4, 2) := by decide +kernel
theorem dX6_goesOn_59 : decode cX6_goesOn 59 = .ok (.iadd, 1) := by decide +kernel
theorem dX6_goesOn_60 : decode cX6_goesOn 60 = .ok (.iaload, 1) := by decide +kernel
theorem dX6_goesOn_61 : decode cX6_goesOn 61 = .ok (.iastore, 1) := by decide +kernel
theorem dX6_goesOn_62 : decode cX6_goesOn 62 = .ok (.iinc 4 1, 3) := by decide +kernel
theorem dX6_goesOn_65 : decode cX6_goesOn 65 = .ok (.goto (-26), 3) := by decide +kernel
theorem dX6_goesOn_68 : decode cX6_goesOn 68 = .ok (.return_, 1) := by decide +kernel
theorem dX6_goesOn_69 : decode cX6_goesOn 69 = .ok (.iconst 0, 1) := by decide +kernel
theorem dX6_goesOn_70 : decode cX6_goesOn 70 = .ok (.istore_n 3, 1) := by decide +kernel
theorem dX6_goesOn_71 : decode cX6_goesOn 71 = .ok (.iload_n 3, 1) := by decide +kernel
theorem dX6_goesOn_72 : decode cX6_goesOn 72 = .ok (.aload_n 0, 1) := by decide +kernel
theorem dX6_goesOn_73 : decode cX6_goesOn 73 = .ok (.getfield 13, 3) := by decide +kernel
theorem dX6_goesOn_76 : decode cX6_goesOn 76 = .ok (.iconst 1, 1) := by decide +kernel
theorem dX6_goesOn_77 : decode cX6_goesOn 77 = .ok (.iaload, 1) := by decide +kernel
theorem dX6_goesOn_78 : decode cX6_goesOn 78 = .ok (.if_icmp .ge 43, 3) := by decide +kernel
theorem dX6_goesOn_81 : decode cX6_goesOn 81 = .ok (.iload_n 2, 1) := by decide +kernel
theorem dX6_goesOn_82 : decode cX6_goesOn 82 = .ok (.iload_n 3, 1) := by decide +kernel
theorem dX6_goesOn_83 : decode cX6_goesOn 83 = .ok (.ishr, 1) := by decide +kernel
theorem dX6_goesOn_84 : decode cX6_goesOn 84 = .ok (.iconst 1, 1) := by decide +kernel
theorem dX6_goesOn_85 : decode cX6_goesOn 85 = .ok (.iand, 1) := by decide +kernel
theorem dX6_goesOn_86 : decode cX6_goesOn 86 = .ok (.iconst 1, 1) := by decide +kernel
theorem dX6_goesOn_87 : decode cX6_goesOn 87 = .ok (.if_icmp .ne 6, 3) := by decide +kernel
theorem dX6_goesOn_90 : decode cX6_goesOn 90 = .ok (.goto 25, 3) := by decide +kernel
theorem dX6_goesOn_93 : decode cX6_goesOn 93 = .ok (.aload_n 0, 1) := by decide +kernel
theorem dX6_goesOn_94 : decode cX6_goesOn 94 = .ok (.getfield 13, 3) := by decide +kernel
theorem dX6_goesOn_97 : decode cX6_goesOn 97 = .ok (.bipush 39, 2) := by decide +kernel
theorem dX6_goesOn_99 : decode cX6_goesOn 99 = .ok (.iload_n 1, 1) := by decide +kernel
theorem dX6_goesOn_100 : decode cX6_goesOn 100 = .ok (.iadd, 1) := by decide +kernel
theorem dX6_goesOn_101 : decode cX6_goesOn 101 = .ok (.iload_n 3, 1) := by decide +kernel
theorem dX6_goesOn_102 : decode cX6_goesOn 102 = .ok (.iastore, 1) := by decide +kernel
theorem dX6_goesOn_103 : decode cX6_goesOn 103 = .ok (.aload_n 0, 1) := by decide +kernel
theorem dX6_goesOn_104 : decode cX6_goesOn 104 = .ok (.iload_n 1, 1) := by decide +kernel
theorem dX6_goesOn_105 : decode cX6_goesOn 105 = .ok (.iconst 1, 1) := by decide +kernel
theorem dX6_goesOn_106 : decode cX6_goesOn 106 = .ok (.iadd, 1) := by decide +kernel
theorem dX6_goesOn_107 : decode cX6_goesOn 107 = .ok (.iload_n 2, 1) := by decide +kernel
theorem dX6_goesOn_108 : decode cX6_goesOn 108 = .ok (.iconst 1, 1) := by decide +kernel
theorem dX6_goesOn_109 : decode cX6_goesOn 109 = .ok (.iload_n 3, 1) := by decide +kernel
theorem dX6_goesOn_110 : decode cX6_goesOn 110 = .ok (.ishl, 1) := by decide +kernel
theorem dX6_goesOn_111 : decode cX6_goesOn 111 = .ok (.ior, 1) := by decide +kernel
theorem dX6_goesOn_112 : decode cX6_goesOn 112 = .ok (.invokevirtual 195, 3) := by decide +kernel
theorem dX6_goesOn_115 : decode cX6_goesOn 115 = .ok (.iinc 3 1, 3) := by decide +kernel
theorem dX6_goesOn_118 : decode cX6_goesOn 118 = .ok (.goto (-47), 3) := by decide +kernel
theorem dX6_goesOn_121 : decode cX6_goesOn 121 = .ok (.return_, 1) := by decide +kernel
theorem dX6_best_0 : decode cX6_best 0 = .ok (.iload_n 1, 1) := by decide +kernel
theorem dX6_best_1 : decode cX6_best 1 = .ok (.iconst (-1), 1) := by decide +kernel
theorem dX6_best_2 : decode cX6_best 2 = .ok (.if_icmp .ge 8, 3) := by decide +kernel
theorem dX6_best_5 : decode cX6_best 5 = .ok (.bipush (-4), 2) := by decide +kernel
theorem dX6_best_7 : decode cX6_best 7 = .ok (.goto 19, 3) := by decide +kernel
theorem dX6_best_10 : decode cX6_best 10 = .ok (.aload_n 0, 1) := by decide +kernel
theorem dX6_best_11 : decode cX6_best 11 = .ok (.getfield 13, 3) := by decide +kernel
theorem dX6_best_14 : decode cX6_best 14 = .ok (.iconst 1, 1) := by decide +kernel
theorem dX6_best_15 : decode cX6_best 15 = .ok (.iaload, 1) := by decide +kernel
theorem dX6_best_16 : decode cX6_best 16 = .ok (.iconst 5, 1) := by decide +kernel
theorem dX6_best_17 : decode cX6_best 17 = .ok (.if_icmp .le 8, 3) := by decide +kernel
theorem dX6_best_20 : decode cX6_best 20 = .ok (.bipush (-6), 2) := by decide +kernel
theorem dX6_best_22 : decode cX6_best 22 = .ok (.goto 4, 3) := by decide +kernel
theorem dX6_best_25 : decode cX6_best 25 = .ok (.iconst 0, 1) := by decide +kernel
theorem dX6_best_26 : decode cX6_best 26 = .ok (.istore_n 2, 1) := by decide +kernel
theorem dX6_best_27 : decode cX6_best 27 = .ok (.iload_n 2, 1) := by decide +kernel
theorem dX6_best_28 : decode cX6_best 28 = .ok (.ifCond .eq 9, 3) := by decide +kernel
theorem dX6_best_31 : decode cX6_best 31 = .ok (.aload_n 0, 1) := by decide +kernel
theorem dX6_best_32 : decode cX6_best 32 = .ok (.iload_n 2, 1) := by decide +kernel
theorem dX6_best_33 : decode cX6_best 33 = .ok (.invokevirtual 50, 3) := by decide +kernel
theorem dX6_best_36 : decode cX6_best 36 = .ok (.ireturn, 1) := by decide +kernel
theorem dX6_best_37 : decode cX6_best 37 = .ok (.aload_n 0, 1) := by decide +kernel
theorem dX6_best_38 : decode cX6_best 38 = .ok (.invokevirtual 198, 3) := by decide +kernel
theorem dX6_best_41 : decode cX6_best 41 = .ok (.aload_n 0, 1) := by decide +kernel
theorem dX6_best_42 : decode cX6_best 42 = .ok (.getfield 13, 3) := by decide +kernel
theorem dX6_best_45 : decode cX6_best 45 = .ok (.bipush 11, 2) := by decide +kernel
theorem dX6_best_47 : decode cX6_best 47 = .ok (.iconst 3, 1) := by decide +kernel
theorem dX6_best_48 : decode cX6_best 48 = .ok (.iastore, 1) := by decide +kernel
theorem dX6_best_49 : decode cX6_best 49 = .ok (.aload_n 0, 1) := by decide +kernel
theorem dX6_best_50 : decode cX6_best 50 = .ok (.getfield 13, 3) := by decide +kernel
theorem dX6_best_53 : decode cX6_best 53 = .ok (.iconst 3, 1) := by decide +kernel
theorem dX6_best_54 : decode cX6_best 54 = .ok (.aload_n 0, 1) := by decide +kernel
theorem dX6_best_55 : decode cX6_best 55 = .ok (.getfield 13, 3) := by decide +kernel
theorem dX6_best_58 : decode cX6_best 58 = .ok (.iconst 1, 1) := by decide +kernel
theorem dX6_best_59 : decode cX6_best 59 = .ok (.iaload, 1) := by decide +kernel
theorem dX6_best_60 : decode cX6_best 60 = .ok (.iastore, 1) := by decide +kernel
theorem dX6_best_61 : decode cX6_best 61 = .ok (.aload_n 0, 1) := by decide +kernel
theorem dX6_best_62 : decode cX6_best 62 = .ok (.bipush (-9), 2) := by decide +kernel
theorem dX6_best_64 : decode cX6_best 64 = .ok (.putfield 192, 3) := by decide +kernel
theorem dX6_best_67 : decode cX6_best 67 = .ok (.aload_n 0, 1) := by decide +kernel
theorem dX6_best_68 : decode cX6_best 68 = .ok (.iconst 0, 1) := by decide +kernel
theorem dX6_best_69 : decode cX6_best 69 = .ok (.iconst 0, 1) := by decide +kernel
theorem dX6_best_70 : decode cX6_best 70 = .ok (.invokevirtual 195, 3) := by decide +kernel
theorem dX6_best_73 : decode cX6_best 73 = .ok (.aload_n 0, 1) := by decide +kernel
theorem dX6_best_74 : decode cX6_best 74 = .ok (.invokevirtual 201, 3) := by decide +kernel
theorem dX6_best_77 : decode cX6_best 77 = .ok (.iload_n 1, 1) := by decide +kernel
theorem dX6_best_78 : decode cX6_best 78 = .ok (.ifCond .ge 10, 3) := by decide +kernel
theorem dX6_best_81 : decode cX6_best 81 = .ok (.aload_n 0, 1) := by decide +kernel
theorem dX6_best_82 : decode cX6_best 82 = .ok (.getfield 192, 3) := by decide +kernel
theorem dX6_best_85 : decode cX6_best 85 = .ok (.goto 24, 3) := by decide +kernel
theorem dX6_best_88 : decode cX6_best 88 = .ok (.iload_n 1, 1) := by decide +kernel
theorem dX6_best_89 : decode cX6_best 89 = .ok (.aload_n 0, 1) := by decide +kernel
theorem dX6_best_90 : decode cX6_best 90 = .ok (.getfield 13, 3) := by decide +kernel
theorem dX6_best_93 : decode cX6_best 93 = .ok (.iconst 1, 1) := by decide +kernel
theorem dX6_best_94 : decode cX6_best 94 = .ok (.iaload, 1) := by decide +kernel
theorem dX6_best_95 : decode cX6_best 95 = .ok (.if_icmp .ge 12, 3) := by decide +kernel
theorem dX6_best_98 : decode cX6_best 98 = .ok (.aload_n 0, 1) := by decide +kernel
theorem dX6_best_99 : decode cX6_best 99 = .ok (.getfield 40, 3) := by decide +kernel
theorem dX6_best_102 : decode cX6_best 102 = .ok (.iload_n 1, 1) := by decide +kernel
theorem dX6_best_103 : decode cX6_best 103 = .ok (.iaload, 1) := by decide +kernel
theorem dX6_best_104 : decode cX6_best 104 = .ok (.goto 5, 3) := by decide +kernel
theorem dX6_best_107 : decode cX6_best 107 = .ok (.bipush (-9), 2) := by decide +kernel
theorem dX6_best_109 : decode cX6_best 109 = .ok (.ireturn, 1) := by decide +kernel
theorem dX6_fewest_0 : decode cX6_fewest 0 = .ok (.iload_n 1, 1) := by decide +kernel
theorem dX6_fewest_1 : decode cX6_fewest 1 = .ok (.ifCond .ge 10, 3) := by decide +kernel
theorem dX6_fewest_4 : decode cX6_fewest 4 = .ok (.aload_n 0, 1) := by decide +kernel
theorem dX6_fewest_5 : decode cX6_fewest 5 = .ok (.bipush (-4), 2) := by decide +kernel
theorem dX6_fewest_7 : decode cX6_fewest 7 = .ok (.invokevirtual 50, 3) := by decide +kernel
theorem dX6_fewest_10 : decode cX6_fewest 10 = .ok (.ireturn, 1) := by decide +kernel
theorem dX6_fewest_11 : decode cX6_fewest 11 = .ok (.aload_n 0, 1) := by decide +kernel
theorem dX6_fewest_12 : decode cX6_fewest 12 = .ok (.getfield 13, 3) := by decide +kernel
theorem dX6_fewest_15 : decode cX6_fewest 15 = .ok (.iconst 2, 1) := by decide +kernel
theorem dX6_fewest_16 : decode cX6_fewest 16 = .ok (.iaload, 1) := by decide +kernel
theorem dX6_fewest_17 : decode cX6_fewest 17 = .ok (.istore_n 2, 1) := by decide +kernel
theorem dX6_fewest_18 : decode cX6_fewest 18 = .ok (.bipush (-9), 2) := by decide +kernel
theorem dX6_fewest_20 : decode cX6_fewest 20 = .ok (.istore_n 3, 1) := by decide +kernel
theorem dX6_fewest_21 : decode cX6_fewest 21 = .ok (.iconst 0, 1) := by decide +kernel
theorem dX6_fewest_22 : decode cX6_fewest 22 = .ok (.istore 4, 2) := by decide +kernel
theorem dX6_fewest_24 : decode cX6_fewest 24 = .ok (.iload 4, 2) := by decide +kernel
theorem dX6_fewest_26 : decode cX6_fewest 26 = .ok (.iconst 5, 1) := by decide +kernel
theorem dX6_fewest_27 : decode cX6_fewest 27 = .ok (.if_icmp .ge 37, 3) := by decide +kernel
theorem dX6_fewest_30 : decode cX6_fewest 30 = .ok (.iload_n 3, 1) := by decide +kernel
theorem dX6_fewest_31 : decode cX6_fewest 31 = .ok (.ifCond .ge 33, 3) := by decide +kernel
theorem dX6_fewest_34 : decode cX6_fewest 34 = .ok (.aload_n 0, 1) := by decide +kernel
theorem dX6_fewest_35 : decode cX6_fewest 35 = .ok (.getfield 13, 3) := by decide +kernel
theorem dX6_fewest_38 : decode cX6_fewest 38 = .ok (.iconst 2, 1) := by decide +kernel
theorem dX6_fewest_39 : decode cX6_fewest 39 = .ok (.iload 4, 2) := by decide +kernel
theorem dX6_fewest_41 : decode cX6_fewest 41 = .ok (.iastore, 1) := by decide +kernel
theorem dX6_fewest_42 : decode cX6_fewest 42 = .ok (.aload_n 0, 1) := by decide +kernel
theorem dX6_fewest_43 : decode cX6_fewest 43 = .ok (.invokevirtual 189, 3) := by decide +kernel
theorem dX6_fewest_46 : decode cX6_fewest 46 = .ok (.iload_n 1, 1) := by decide +kernel
theorem dX6_fewest_47 : decode cX6_fewest 47 = .ok (.if_icmp .gt 8, 3) := by decide +kernel
theorem dX6_fewest_50 : decode cX6_fewest 50 = .ok (.iload 4, 2) := by decide +kernel
theorem dX6_fewest_52 : decode cX6_fewest 52 = .ok (.goto 5, 3) := by decide +kernel
theorem dX6_fewest_55 : decode cX6_fewest 55 = .ok (.bipush (-9), 2) := by decide +kernel
theorem dX6_fewest_57 : decode cX6_fewest 57 = .ok (.istore_n 3, 1) := by decide +kernel
theorem dX6_fewest_58 : decode cX6_fewest 58 = .ok (.iinc 4 1, 3) := by decide +kernel
theorem dX6_fewest_61 : decode cX6_fewest 61 = .ok (.goto (-37), 3) := by decide +kernel
theorem dX6_fewest_64 : decode cX6_fewest 64 = .ok (.aload_n 0, 1) := by decide +kernel
theorem dX6_fewest_65 : decode cX6_fewest 65 = .ok (.getfield 13, 3) := by decide +kernel
theorem dX6_fewest_68 : decode cX6_fewest 68 = .ok (.iconst 2, 1) := by decide +kernel
theorem dX6_fewest_69 : decode cX6_fewest 69 = .ok (.iload_n 2, 1) := by decide +kernel
theorem dX6_fewest_70 : decode cX6_fewest 70 = .ok (.iastore, 1) := by decide +kernel
theorem dX6_fewest_71 : decode cX6_fewest 71 = .ok (.iload_n 3, 1) := by decide +kernel
theorem dX6_fewest_72 : decode cX6_fewest 72 = .ok (.ireturn, 1) := by decide +kernel
theorem dX6_which_0 : decode cX6_which 0 = .ok (.bipush (-9), 2) := by decide +kernel
theorem dX6_which_2 : decode cX6_which 2 = .ok (.istore_n 1, 1) := by decide +kernel
theorem dX6_which_3 : decode cX6_which 3 = .ok (.aload_n 0, 1) := by decide +kernel
theorem dX6_which_4 : decode cX6_which 4 = .ok (.invokevirtual 189, 3) := by decide +kernel
theorem dX6_which_7 : decode cX6_which 7 = .ok (.istore_n 2, 1) := by decide +kernel
theorem dX6_which_8 : decode cX6_which 8 = .ok (.iconst 0, 1) := by decide +kernel
theorem dX6_which_9 : decode cX6_which 9 = .ok (.istore_n 3, 1) := by decide +kernel
theorem dX6_which_10 : decode cX6_which 10 = .ok (.iload_n 3, 1) := by decide +kernel
theorem dX6_which_11 : decode cX6_which 11 = .ok (.aload_n 0, 1) := by decide +kernel
theorem dX6_which_12 : decode cX6_which 12 = .ok (.getfield 13, 3) := by decide +kernel
theorem dX6_which_15 : decode cX6_which 15 = .ok (.iconst 0, 1) := by decide +kernel
theorem dX6_which_16 : decode cX6_which 16 = .ok (.iaload, 1) := by decide +kernel
theorem dX6_which_17 : decode cX6_which 17 = .ok (.if_icmp .ge 69, 3) := by decide +kernel
theorem dX6_which_20 : decode cX6_which 20 = .ok (.bipush 13, 2) := by decide +kernel
theorem dX6_which_22 : decode cX6_which 22 = .ok (.iconst 2, 1) := by decide +kernel
theorem dX6_which_23 : decode cX6_which 23 = .ok (.iload_n 3, 1) := by decide +kernel
theorem dX6_which_24 : decode cX6_which 24 = .ok (.imul, 1) := by decide +kernel
theorem dX6_which_25 : decode cX6_which 25 = .ok (.iadd, 1) := by decide +kernel
theorem dX6_which_26 : decode cX6_which 26 = .ok (.iconst 1, 1) := by decide +kernel
theorem dX6_which_27 : decode cX6_which 27 = .ok (.iadd, 1) := by decide +kernel
theorem dX6_which_28 : decode cX6_which 28 = .ok (.istore 4, 2) := by decide +kernel
theorem dX6_which_30 : decode cX6_which 30 = .ok (.aload_n 0, 1) := by decide +kernel
theorem dX6_which_31 : decode cX6_which 31 = .ok (.getfield 13, 3) := by decide +kernel
theorem dX6_which_34 : decode cX6_which 34 = .ok (.iload 4, 2) := by decide +kernel
theorem dX6_which_36 : decode cX6_which 36 = .ok (.iaload, 1) := by decide +kernel
theorem dX6_which_37 : decode cX6_which 37 = .ok (.iconst 1, 1) := by decide +kernel
theorem dX6_which_38 : decode cX6_which 38 = .ok (.if_icmp .ne 6, 3) := by decide +kernel
theorem dX6_which_41 : decode cX6_which 41 = .ok (.goto 39, 3) := by decide +kernel
theorem dX6_which_44 : decode cX6_which 44 = .ok (.aload_n 0, 1) := by decide +kernel
theorem dX6_which_45 : decode cX6_which 45 = .ok (.getfield 13, 3) := by decide +kernel
theorem dX6_which_48 : decode cX6_which 48 = .ok (.iload 4, 2) := by decide +kernel
theorem dX6_which_50 : decode cX6_which 50 = .ok (.iconst 1, 1) := by decide +kernel
theorem dX6_which_51 : decode cX6_which 51 = .ok (.iastore, 1) := by decide +kernel
theorem dX6_which_52 : decode cX6_which 52 = .ok (.aload_n 0, 1) := by decide +kernel
theorem dX6_which_53 : decode cX6_which 53 = .ok (.invokevirtual 189, 3) := by decide +kernel
theorem dX6_which_56 : decode cX6_which 56 = .ok (.istore 5, 2) := by decide +kernel
theorem dX6_which_58 : decode cX6_which 58 = .ok (.aload_n 0, 1) := by decide +kernel
theorem dX6_which_59 : decode cX6_which 59 = .ok (.getfield 13, 3) := by decide +kernel
theorem dX6_which_62 : decode cX6_which 62 = .ok (.iload 4, 2) := by decide +kernel
theorem dX6_which_64 : decode cX6_which 64 = .ok (.iconst 0, 1) := by decide +kernel
theorem dX6_which_65 : decode cX6_which 65 = .ok (.iastore, 1) := by decide +kernel
theorem dX6_which_66 : decode cX6_which 66 = .ok (.iload 5, 2) := by decide +kernel
theorem dX6_which_68 : decode cX6_which 68 = .ok (.iload_n 2, 1) := by decide +kernel
theorem dX6_which_69 : decode cX6_which 69 = .ok (.if_icmp .lt 6, 3) := by decide +kernel
theorem dX6_which_72 : decode cX6_which 72 = .ok (.goto 8, 3) := by decide +kernel
theorem dX6_which_75 : decode cX6_which 75 = .ok (.iload_n 3, 1) := by decide +kernel
theorem dX6_which_76 : decode cX6_which 76 = .ok (.istore_n 1, 1) := by decide +kernel
theorem dX6_which_77 : decode cX6_which 77 = .ok (.iload 5, 2) := by decide +kernel
theorem dX6_which_79 : decode cX6_which 79 = .ok (.istore_n 2, 1) := by decide +kernel
theorem dX6_which_80 : decode cX6_which 80 = .ok (.iinc 3 1, 3) := by decide +kernel
theorem dX6_which_83 : decode cX6_which 83 = .ok (.goto (-73), 3) := by decide +kernel
theorem dX6_which_86 : decode cX6_which 86 = .ok (.iload_n 1, 1) := by decide +kernel
theorem dX6_which_87 : decode cX6_which 87 = .ok (.ireturn, 1) := by decide +kernel
theorem dX6_edge_0 : decode cX6_edge 0 = .ok (.iload_n 1, 1) := by decide +kernel
theorem dX6_edge_1 : decode cX6_edge 1 = .ok (.iconst 3, 1) := by decide +kernel
theorem dX6_edge_2 : decode cX6_edge 2 = .ok (.invokestatic 46, 3) := by decide +kernel
theorem dX6_edge_5 : decode cX6_edge 5 = .ok (.ifCond .ne 10, 3) := by decide +kernel
theorem dX6_edge_8 : decode cX6_edge 8 = .ok (.aload_n 0, 1) := by decide +kernel
theorem dX6_edge_9 : decode cX6_edge 9 = .ok (.bipush (-2), 2) := by decide +kernel
theorem dX6_edge_11 : decode cX6_edge 11 = .ok (.invokevirtual 50, 3) := by decide +kernel
theorem dX6_edge_14 : decode cX6_edge 14 = .ok (.ireturn, 1) := by decide +kernel
theorem dX6_edge_15 : decode cX6_edge 15 = .ok (.sipush 999, 3) := by decide +kernel
theorem dX6_edge_18 : decode cX6_edge 18 = .ok (.istore_n 2, 1) := by decide +kernel
theorem dX6_edge_19 : decode cX6_edge 19 = .ok (.iload_n 2, 1) := by decide +kernel
theorem dX6_edge_20 : decode cX6_edge 20 = .ok (.ifCond .le 20, 3) := by decide +kernel
theorem dX6_edge_23 : decode cX6_edge 23 = .ok (.aload_n 0, 1) := by decide +kernel
theorem dX6_edge_24 : decode cX6_edge 24 = .ok (.iload_n 2, 1) := by decide +kernel
theorem dX6_edge_25 : decode cX6_edge 25 = .ok (.invokevirtual 109, 3) := by decide +kernel
theorem dX6_edge_28 : decode cX6_edge 28 = .ok (.iload_n 1, 1) := by decide +kernel
theorem dX6_edge_29 : decode cX6_edge 29 = .ok (.if_icmp .ne 5, 3) := by decide +kernel
theorem dX6_edge_32 : decode cX6_edge 32 = .ok (.iload_n 2, 1) := by decide +kernel
theorem dX6_edge_33 : decode cX6_edge 33 = .ok (.ireturn, 1) := by decide +kernel
theorem dX6_edge_34 : decode cX6_edge 34 = .ok (.iinc 2 (-1), 3) := by decide +kernel
theorem dX6_edge_37 : decode cX6_edge 37 = .ok (.goto (-18), 3) := by decide +kernel
theorem dX6_edge_40 : decode cX6_edge 40 = .ok (.bipush (-9), 2) := by decide +kernel
theorem dX6_edge_42 : decode cX6_edge 42 = .ok (.ireturn, 1) := by decide +kernel
theorem dX6_chance_0 : decode cX6_chance 0 = .ok (.iload_n 1, 1) := by decide +kernel
theorem dX6_chance_1 : decode cX6_chance 1 = .ok (.iconst 0, 1) := by decide +kernel
theorem dX6_chance_2 : decode cX6_chance 2 = .ok (.bipush 100, 2) := by decide +kernel
theorem dX6_chance_4 : decode cX6_chance 4 = .ok (.invokestatic 99, 3) := by decide +kernel
theorem dX6_chance_7 : decode cX6_chance 7 = .ok (.istore_n 2, 1) := by decide +kernel
theorem dX6_chance_8 : decode cX6_chance 8 = .ok (.iload_n 2, 1) := by decide +kernel
theorem dX6_chance_9 : decode cX6_chance 9 = .ok (.ifCond .eq 9, 3) := by decide +kernel
theorem dX6_chance_12 : decode cX6_chance 12 = .ok (.aload_n 0, 1) := by decide +kernel
theorem dX6_chance_13 : decode cX6_chance 13 = .ok (.iload_n 2, 1) := by decide +kernel
theorem dX6_chance_14 : decode cX6_chance 14 = .ok (.invokevirtual 50, 3) := by decide +kernel
theorem dX6_chance_17 : decode cX6_chance 17 = .ok (.ireturn, 1) := by decide +kernel
theorem dX6_chance_18 : decode cX6_chance 18 = .ok (.aload_n 0, 1) := by decide +kernel
theorem dX6_chance_19 : decode cX6_chance 19 = .ok (.getfield 13, 3) := by decide +kernel
theorem dX6_chance_22 : decode cX6_chance 22 = .ok (.bipush 10, 2) := by decide +kernel
theorem dX6_chance_24 : decode cX6_chance 24 = .ok (.iaload, 1) := by decide +kernel
theorem dX6_chance_25 : decode cX6_chance 25 = .ok (.istore_n 3, 1) := by decide +kernel
theorem dX6_chance_26 : decode cX6_chance 26 = .ok (.aload_n 0, 1) := by decide +kernel
theorem dX6_chance_27 : decode cX6_chance 27 = .ok (.getfield 13, 3) := by decide +kernel
theorem dX6_chance_30 : decode cX6_chance 30 = .ok (.bipush 10, 2) := by decide +kernel
theorem dX6_chance_32 : decode cX6_chance 32 = .ok (.iconst 1, 1) := by decide +kernel
theorem dX6_chance_33 : decode cX6_chance 33 = .ok (.iastore, 1) := by decide +kernel
theorem dX6_chance_34 : decode cX6_chance 34 = .ok (.aload_n 0, 1) := by decide +kernel
theorem dX6_chance_35 : decode cX6_chance 35 = .ok (.invokevirtual 189, 3) := by decide +kernel
theorem dX6_chance_38 : decode cX6_chance 38 = .ok (.istore 4, 2) := by decide +kernel
theorem dX6_chance_40 : decode cX6_chance 40 = .ok (.aload_n 0, 1) := by decide +kernel
theorem dX6_chance_41 : decode cX6_chance 41 = .ok (.getfield 13, 3) := by decide +kernel
theorem dX6_chance_44 : decode cX6_chance 44 = .ok (.bipush 10, 2) := by decide +kernel
theorem dX6_chance_46 : decode cX6_chance 46 = .ok (.iconst 0, 1) := by decide +kernel
theorem dX6_chance_47 : decode cX6_chance 47 = .ok (.iastore, 1) := by decide +kernel
theorem dX6_chance_48 : decode cX6_chance 48 = .ok (.aload_n 0, 1) := by decide +kernel
theorem dX6_chance_49 : decode cX6_chance 49 = .ok (.invokevirtual 189, 3) := by decide +kernel
theorem dX6_chance_52 : decode cX6_chance 52 = .ok (.istore 5, 2) := by decide +kernel
theorem dX6_chance_54 : decode cX6_chance 54 = .ok (.aload_n 0, 1) := by decide +kernel
theorem dX6_chance_55 : decode cX6_chance 55 = .ok (.getfield 13, 3) := by decide +kernel
theorem dX6_chance_58 : decode cX6_chance 58 = .ok (.bipush 10, 2) := by decide +kernel
theorem dX6_chance_60 : decode cX6_chance 60 = .ok (.iload_n 3, 1) := by decide +kernel
theorem dX6_chance_61 : decode cX6_chance 61 = .ok (.iastore, 1) := by decide +kernel
theorem dX6_chance_62 : decode cX6_chance 62 = .ok (.iload_n 1, 1) := by decide +kernel
theorem dX6_chance_63 : decode cX6_chance 63 = .ok (.iload 4, 2) := by decide +kernel
theorem dX6_chance_65 : decode cX6_chance 65 = .ok (.imul, 1) := by decide +kernel
theorem dX6_chance_66 : decode cX6_chance 66 = .ok (.bipush 100, 2) := by decide +kernel
theorem dX6_chance_68 : decode cX6_chance 68 = .ok (.iload_n 1, 1) := by decide +kernel
theorem dX6_chance_69 : decode cX6_chance 69 = .ok (.isub, 1) := by decide +kernel
theorem dX6_chance_70 : decode cX6_chance 70 = .ok (.iload 5, 2) := by decide +kernel
theorem dX6_chance_72 : decode cX6_chance 72 = .ok (.imul, 1) := by decide +kernel
theorem dX6_chance_73 : decode cX6_chance 73 = .ok (.iadd, 1) := by decide +kernel
theorem dX6_chance_74 : decode cX6_chance 74 = .ok (.ireturn, 1) := by decide +kernel
theorem dX6_weightsOf_0 : decode cX6_weightsOf 0 = .ok (.aload_n 0, 1) := by decide +kernel
theorem dX6_weightsOf_1 : decode cX6_weightsOf 1 = .ok (.invokevirtual 186, 3) := by decide +kernel
theorem dX6_weightsOf_4 : decode cX6_weightsOf 4 = .ok (.iconst 0, 1) := by decide +kernel
theorem dX6_weightsOf_5 : decode cX6_weightsOf 5 = .ok (.istore_n 1, 1) := by decide +kernel
theorem dX6_weightsOf_6 : decode cX6_weightsOf 6 = .ok (.iconst 0, 1) := by decide +kernel
theorem dX6_weightsOf_7 : decode cX6_weightsOf 7 = .ok (.istore_n 2, 1) := by decide +kernel
theorem dX6_weightsOf_8 : decode cX6_weightsOf 8 = .ok (.iload_n 2, 1) := by decide +kernel
theorem dX6_weightsOf_9 : decode cX6_weightsOf 9 = .ok (.aload_n 0, 1) := by decide +kernel
theorem dX6_weightsOf_10 : decode cX6_weightsOf 10 = .ok (.getfield 13, 3) := by decide +kernel
theorem dX6_weightsOf_13 : decode cX6_weightsOf 13 = .ok (.iconst 1, 1) := by decide +kernel
theorem dX6_weightsOf_14 : decode cX6_weightsOf 14 = .ok (.iaload, 1) := by decide +kernel
theorem dX6_weightsOf_15 : decode cX6_weightsOf 15 = .ok (.if_icmp .ge 30, 3) := by decide +kernel
theorem dX6_weightsOf_18 : decode cX6_weightsOf 18 = .ok (.iload_n 1, 1) := by decide +kernel
theorem dX6_weightsOf_19 : decode cX6_weightsOf 19 = .ok (.aload_n 0, 1) := by decide +kernel
theorem dX6_weightsOf_20 : decode cX6_weightsOf 20 = .ok (.getfield 34, 3) := by decide +kernel
theorem dX6_weightsOf_23 : decode cX6_weightsOf 23 = .ok (.iload_n 2, 1) := by decide +kernel
theorem dX6_weightsOf_24 : decode cX6_weightsOf 24 = .ok (.iaload, 1) := by decide +kernel
theorem dX6_weightsOf_25 : decode cX6_weightsOf 25 = .ok (.ifCond .lt 11, 3) := by decide +kernel
theorem dX6_weightsOf_28 : decode cX6_weightsOf 28 = .ok (.aload_n 0, 1) := by decide +kernel
theorem dX6_weightsOf_29 : decode cX6_weightsOf 29 = .ok (.iload_n 2, 1) := by decide +kernel
theorem dX6_weightsOf_30 : decode cX6_weightsOf 30 = .ok (.invokevirtual 106, 3) := by decide +kernel
theorem dX6_weightsOf_33 : decode cX6_weightsOf 33 = .ok (.goto 4, 3) := by decide +kernel
theorem dX6_weightsOf_36 : decode cX6_weightsOf 36 = .ok (.iconst 0, 1) := by decide +kernel
theorem dX6_weightsOf_37 : decode cX6_weightsOf 37 = .ok (.iadd, 1) := by decide +kernel
theorem dX6_weightsOf_38 : decode cX6_weightsOf 38 = .ok (.istore_n 1, 1) := by decide +kernel
theorem dX6_weightsOf_39 : decode cX6_weightsOf 39 = .ok (.iinc 2 1, 3) := by decide +kernel
theorem dX6_weightsOf_42 : decode cX6_weightsOf 42 = .ok (.goto (-34), 3) := by decide +kernel
theorem dX6_weightsOf_45 : decode cX6_weightsOf 45 = .ok (.iload_n 1, 1) := by decide +kernel
theorem dX6_weightsOf_46 : decode cX6_weightsOf 46 = .ok (.ireturn, 1) := by decide +kernel
theorem dX6_heaviest_0 : decode cX6_heaviest 0 = .ok (.aload_n 0, 1) := by decide +kernel
theorem dX6_heaviest_1 : decode cX6_heaviest 1 = .ok (.invokevirtual 204, 3) := by decide +kernel
theorem dX6_heaviest_4 : decode cX6_heaviest 4 = .ok (.ireturn, 1) := by decide +kernel
theorem dX6_yard_0 : decode cX6_yard 0 = .ok (.aload_n 0, 1) := by decide +kernel
theorem dX6_yard_1 : decode cX6_yard 1 = .ok (.getfield 13, 3) := by decide +kernel
theorem dX6_yard_4 : decode cX6_yard 4 = .ok (.iconst 1, 1) := by decide +kernel
theorem dX6_yard_5 : decode cX6_yard 5 = .ok (.iaload, 1) := by decide +kernel
theorem dX6_yard_6 : decode cX6_yard 6 = .ok (.ifCond .ne 6, 3) := by decide +kernel
theorem dX6_yard_9 : decode cX6_yard 9 = .ok (.bipush (-9), 2) := by decide +kernel
theorem dX6_yard_11 : decode cX6_yard 11 = .ok (.ireturn, 1) := by decide +kernel
theorem dX6_yard_12 : decode cX6_yard 12 = .ok (.aload_n 0, 1) := by decide +kernel
theorem dX6_yard_13 : decode cX6_yard 13 = .ok (.invokevirtual 198, 3) := by decide +kernel
theorem dX6_yard_16 : decode cX6_yard 16 = .ok (.bipush (-9), 2) := by decide +kernel
theorem dX6_yard_18 : decode cX6_yard 18 = .ok (.istore_n 1, 1) := by decide +kernel
theorem dX6_yard_19 : decode cX6_yard 19 = .ok (.iconst 0, 1) := by decide +kernel
theorem dX6_yard_20 : decode cX6_yard 20 = .ok (.istore_n 2, 1) := by decide +kernel
theorem dX6_yard_21 : decode cX6_yard 21 = .ok (.bipush 50, 2) := by decide +kernel
theorem dX6_yard_23 : decode cX6_yard 23 = .ok (.istore_n 3, 1) := by decide +kernel
theorem dX6_yard_24 : decode cX6_yard 24 = .ok (.iload_n 3, 1) := by decide +kernel
theorem dX6_yard_25 : decode cX6_yard 25 = .ok (.sipush 1000, 3) := by decide +kernel
theorem dX6_yard_28 : decode cX6_yard 28 = .ok (.if_icmp .ge 68, 3) := by decide +kernel
theorem dX6_yard_31 : decode cX6_yard 31 = .ok (.iconst 0, 1) := by decide +kernel
theorem dX6_yard_32 : decode cX6_yard 32 = .ok (.istore 4, 2) := by decide +kernel
theorem dX6_yard_34 : decode cX6_yard 34 = .ok (.iload 4, 2) := by decide +kernel
theorem dX6_yard_36 : decode cX6_yard 36 = .ok (.aload_n 0, 1) := by decide +kernel
theorem dX6_yard_37 : decode cX6_yard 37 = .ok (.getfield 13, 3) := by decide +kernel
theorem dX6_yard_40 : decode cX6_yard 40 = .ok (.iconst 1, 1) := by decide +kernel
theorem dX6_yard_41 : decode cX6_yard 41 = .ok (.iaload, 1) := by decide +kernel
theorem dX6_yard_42 : decode cX6_yard 42 = .ok (.if_icmp .ge 24, 3) := by decide +kernel
theorem dX6_yard_45 : decode cX6_yard 45 = .ok (.aload_n 0, 1) := by decide +kernel
theorem dX6_yard_46 : decode cX6_yard 46 = .ok (.getfield 13, 3) := by decide +kernel
theorem dX6_yard_49 : decode cX6_yard 49 = .ok (.bipush 23, 2) := by decide +kernel
theorem dX6_yard_51 : decode cX6_yard 51 = .ok (.iconst 2, 1) := by decide +kernel
theorem dX6_yard_52 : decode cX6_yard 52 = .ok (.iload 4, 2) := by decide +kernel
theorem dX6_yard_54 : decode cX6_yard 54 = .ok (.imul, 1) := by decide +kernel
theorem dX6_yard_55 : decode cX6_yard 55 = .ok (.iadd, 1) := by decide +kernel
theorem dX6_yard_56 : decode cX6_yard 56 = .ok (.iconst 1, 1) := by decide +kernel
theorem dX6_yard_57 : decode cX6_yard 57 = .ok (.iadd, 1) := by decide +kernel
theorem dX6_yard_58 : decode cX6_yard 58 = .ok (.iload_n 3, 1) := by decide +kernel
theorem dX6_yard_59 : decode cX6_yard 59 = .ok (.iastore, 1) := by decide +kernel
theorem dX6_yard_60 : decode cX6_yard 60 = .ok (.iinc 4 1, 3) := by decide +kernel
theorem dX6_yard_63 : decode cX6_yard 63 = .ok (.goto (-29), 3) := by decide +kernel
theorem dX6_yard_66 : decode cX6_yard 66 = .ok (.aload_n 0, 1) := by decide +kernel
theorem dX6_yard_67 : decode cX6_yard 67 = .ok (.invokevirtual 204, 3) := by decide +kernel
theorem dX6_yard_70 : decode cX6_yard 70 = .ok (.istore 4, 2) := by decide +kernel
theorem dX6_yard_72 : decode cX6_yard 72 = .ok (.iload_n 1, 1) := by decide +kernel
theorem dX6_yard_73 : decode cX6_yard 73 = .ok (.ifCond .lt 12, 3) := by decide +kernel
theorem dX6_yard_76 : decode cX6_yard 76 = .ok (.iload 4, 2) := by decide +kernel
theorem dX6_yard_78 : decode cX6_yard 78 = .ok (.iload_n 2, 1) := by decide +kernel
theorem dX6_yard_79 : decode cX6_yard 79 = .ok (.if_icmp .gt 6, 3) := by decide +kernel
theorem dX6_yard_82 : decode cX6_yard 82 = .ok (.goto 8, 3) := by decide +kernel
theorem dX6_yard_85 : decode cX6_yard 85 = .ok (.iload_n 3, 1) := by decide +kernel
theorem dX6_yard_86 : decode cX6_yard 86 = .ok (.istore_n 1, 1) := by decide +kernel
theorem dX6_yard_87 : decode cX6_yard 87 = .ok (.iload 4, 2) := by decide +kernel
theorem dX6_yard_89 : decode cX6_yard 89 = .ok (.istore_n 2, 1) := by decide +kernel
theorem dX6_yard_90 : decode cX6_yard 90 = .ok (.iinc 3 50, 3) := by decide +kernel
theorem dX6_yard_93 : decode cX6_yard 93 = .ok (.goto (-69), 3) := by decide +kernel
theorem dX6_yard_96 : decode cX6_yard 96 = .ok (.aload_n 0, 1) := by decide +kernel
theorem dX6_yard_97 : decode cX6_yard 97 = .ok (.invokevirtual 201, 3) := by decide +kernel
theorem dX6_yard_100 : decode cX6_yard 100 = .ok (.iload_n 1, 1) := by decide +kernel
theorem dX6_yard_101 : decode cX6_yard 101 = .ok (.ireturn, 1) := by decide +kernel
theorem dX6_row_0 : decode cX6_row 0 = .ok (.iload_n 1, 1) := by decide +kernel
theorem dX6_row_1 : decode cX6_row 1 = .ok (.iconst 0, 1) := by decide +kernel
theorem dX6_row_2 : decode cX6_row 2 = .ok (.bipush 9, 2) := by decide +kernel
theorem dX6_row_4 : decode cX6_row 4 = .ok (.invokestatic 99, 3) := by decide +kernel
theorem dX6_row_7 : decode cX6_row 7 = .ok (.istore_n 2, 1) := by decide +kernel
theorem dX6_row_8 : decode cX6_row 8 = .ok (.iload_n 2, 1) := by decide +kernel
theorem dX6_row_9 : decode cX6_row 9 = .ok (.ifCond .ne 15, 3) := by decide +kernel
theorem dX6_row_12 : decode cX6_row 12 = .ok (.aload_n 0, 1) := by decide +kernel
theorem dX6_row_13 : decode cX6_row 13 = .ok (.getfield 207, 3) := by decide +kernel
theorem dX6_row_16 : decode cX6_row 16 = .ok (.bipush 16, 2) := by decide +kernel
theorem dX6_row_18 : decode cX6_row 18 = .ok (.if_icmp .ne 6, 3) := by decide +kernel
theorem dX6_row_21 : decode cX6_row 21 = .ok (.bipush (-6), 2) := by decide +kernel
theorem dX6_row_23 : decode cX6_row 23 = .ok (.istore_n 2, 1) := by decide +kernel
theorem dX6_row_24 : decode cX6_row 24 = .ok (.iload_n 2, 1) := by decide +kernel
theorem dX6_row_25 : decode cX6_row 25 = .ok (.ifCond .eq 9, 3) := by decide +kernel
theorem dX6_row_28 : decode cX6_row 28 = .ok (.aload_n 0, 1) := by decide +kernel
theorem dX6_row_29 : decode cX6_row 29 = .ok (.iload_n 2, 1) := by decide +kernel
theorem dX6_row_30 : decode cX6_row 30 = .ok (.invokevirtual 50, 3) := by decide +kernel
theorem dX6_row_33 : decode cX6_row 33 = .ok (.ireturn, 1) := by decide +kernel
theorem dX6_row_34 : decode cX6_row 34 = .ok (.aload_n 0, 1) := by decide +kernel
theorem dX6_row_35 : decode cX6_row 35 = .ok (.getfield 43, 3) := by decide +kernel
theorem dX6_row_38 : decode cX6_row 38 = .ok (.aload_n 0, 1) := by decide +kernel
theorem dX6_row_39 : decode cX6_row 39 = .ok (.getfield 207, 3) := by decide +kernel
theorem dX6_row_42 : decode cX6_row 42 = .ok (.iload_n 1, 1) := by decide +kernel
theorem dX6_row_43 : decode cX6_row 43 = .ok (.iastore, 1) := by decide +kernel
theorem dX6_row_44 : decode cX6_row 44 = .ok (.aload_n 0, 1) := by decide +kernel
theorem dX6_row_45 : decode cX6_row 45 = .ok (.dup, 1) := by decide +kernel
theorem dX6_row_46 : decode cX6_row 46 = .ok (.getfield 207, 3) := by decide +kernel
theorem dX6_row_49 : decode cX6_row 49 = .ok (.iconst 1, 1) := by decide +kernel
theorem dX6_row_50 : decode cX6_row 50 = .ok (.iadd, 1) := by decide +kernel
theorem dX6_row_51 : decode cX6_row 51 = .ok (.putfield 207, 3) := by decide +kernel
theorem dX6_row_54 : decode cX6_row 54 = .ok (.aload_n 0, 1) := by decide +kernel
theorem dX6_row_55 : decode cX6_row 55 = .ok (.getfield 207, 3) := by decide +kernel
theorem dX6_row_58 : decode cX6_row 58 = .ok (.ireturn, 1) := by decide +kernel
theorem dX6_canFrom_0 : decode cX6_canFrom 0 = .ok (.iload_n 2, 1) := by decide +kernel
theorem dX6_canFrom_1 : decode cX6_canFrom 1 = .ok (.bipush 9, 2) := by decide +kernel
theorem dX6_canFrom_3 : decode cX6_canFrom 3 = .ok (.if_icmp .eq 32, 3) := by decide +kernel
theorem dX6_canFrom_6 : decode cX6_canFrom 6 = .ok (.aload_n 0, 1) := by decide +kernel
theorem dX6_canFrom_7 : decode cX6_canFrom 7 = .ok (.iload_n 2, 1) := by decide +kernel
theorem dX6_canFrom_8 : decode cX6_canFrom 8 = .ok (.invokevirtual 90, 3) := by decide +kernel
theorem dX6_canFrom_11 : decode cX6_canFrom 11 = .ok (.ifCond .eq 21, 3) := by decide +kernel
theorem dX6_canFrom_14 : decode cX6_canFrom 14 = .ok (.aload_n 0, 1) := by decide +kernel
theorem dX6_canFrom_15 : decode cX6_canFrom 15 = .ok (.getfield 34, 3) := by decide +kernel
theorem dX6_canFrom_18 : decode cX6_canFrom 18 = .ok (.iload_n 2, 1) := by decide +kernel
theorem dX6_canFrom_19 : decode cX6_canFrom 19 = .ok (.iaload, 1) := by decide +kernel
theorem dX6_canFrom_20 : decode cX6_canFrom 20 = .ok (.ifCond .ge 12, 3) := by decide +kernel
theorem dX6_canFrom_23 : decode cX6_canFrom 23 = .ok (.aload_n 0, 1) := by decide +kernel
theorem dX6_canFrom_24 : decode cX6_canFrom 24 = .ok (.iload_n 2, 1) := by decide +kernel
theorem dX6_canFrom_25 : decode cX6_canFrom 25 = .ok (.invokevirtual 112, 3) := by decide +kernel
theorem dX6_canFrom_28 : decode cX6_canFrom 28 = .ok (.iconst 3, 1) := by decide +kernel
theorem dX6_canFrom_29 : decode cX6_canFrom 29 = .ok (.if_icmp .ne 6, 3) := by decide +kernel
theorem dX6_canFrom_32 : decode cX6_canFrom 32 = .ok (.bipush (-9), 2) := by decide +kernel
theorem dX6_canFrom_34 : decode cX6_canFrom 34 = .ok (.ireturn, 1) := by decide +kernel
theorem dX6_canFrom_35 : decode cX6_canFrom 35 = .ok (.iload_n 1, 1) := by decide +kernel
theorem dX6_canFrom_36 : decode cX6_canFrom 36 = .ok (.istore_n 3, 1) := by decide +kernel
theorem dX6_canFrom_37 : decode cX6_canFrom 37 = .ok (.iload_n 3, 1) := by decide +kernel
theorem dX6_canFrom_38 : decode cX6_canFrom 38 = .ok (.sipush 9999, 3) := by decide +kernel
theorem dX6_canFrom_41 : decode cX6_canFrom 41 = .ok (.if_icmp .gt 66, 3) := by decide +kernel
theorem dX6_canFrom_44 : decode cX6_canFrom 44 = .ok (.aload_n 0, 1) := by decide +kernel
theorem dX6_canFrom_45 : decode cX6_canFrom 45 = .ok (.iload_n 3, 1) := by decide +kernel
theorem dX6_canFrom_46 : decode cX6_canFrom 46 = .ok (.invokevirtual 154, 3) := by decide +kernel
theorem dX6_canFrom_49 : decode cX6_canFrom 49 = .ok (.iload_n 2, 1) := by decide +kernel
theorem dX6_canFrom_50 : decode cX6_canFrom 50 = .ok (.bipush 9, 2) := by decide +kernel
theorem dX6_canFrom_52 : decode cX6_canFrom 52 = .ok (.if_icmp .ne 21, 3) := by decide +kernel
theorem dX6_canFrom_55 : decode cX6_canFrom 55 = .ok (.aload_n 0, 1) := by decide +kernel
theorem dX6_canFrom_56 : decode cX6_canFrom 56 = .ok (.getfield 124, 3) := by decide +kernel
theorem dX6_canFrom_59 : decode cX6_canFrom 59 = .ok (.ifCond .le 42, 3) := by decide +kernel
theorem dX6_canFrom_62 : decode cX6_canFrom 62 = .ok (.aload_n 0, 1) := by decide +kernel
theorem dX6_canFrom_63 : decode cX6_canFrom 63 = .ok (.iload_n 3, 1) := by decide +kernel
theorem dX6_canFrom_64 : decode cX6_canFrom 64 = .ok (.invokevirtual 161, 3) := by decide +kernel
theorem dX6_canFrom_67 : decode cX6_canFrom 67 = .ok (.ifCond .eq 34, 3) := by decide +kernel
theorem dX6_canFrom_70 : decode cX6_canFrom 70 = .ok (.goto 29, 3) := by decide +kernel
theorem dX6_canFrom_73 : decode cX6_canFrom 73 = .ok (.aload_n 0, 1) := by decide +kernel
theorem dX6_canFrom_74 : decode cX6_canFrom 74 = .ok (.iload_n 2, 1) := by decide +kernel
theorem dX6_canFrom_75 : decode cX6_canFrom 75 = .ok (.invokevirtual 148, 3) := by decide +kernel
theorem dX6_canFrom_78 : decode cX6_canFrom 78 = .ok (.iload_n 3, 1) := by decide +kernel
theorem dX6_canFrom_79 : decode cX6_canFrom 79 = .ok (.if_icmp .gt 22, 3) := by decide +kernel
theorem dX6_canFrom_82 : decode cX6_canFrom 82 = .ok (.aload_n 0, 1) := by decide +kernel
theorem dX6_canFrom_83 : decode cX6_canFrom 83 = .ok (.iload_n 2, 1) := by decide +kernel
theorem dX6_canFrom_84 : decode cX6_canFrom 84 = .ok (.invokevirtual 167, 3) := by decide +kernel
theorem dX6_canFrom_87 : decode cX6_canFrom 87 = .ok (.ifCond .eq 14, 3) := by decide +kernel
theorem dX6_canFrom_90 : decode cX6_canFrom 90 = .ok (.aload_n 0, 1) := by decide +kernel
theorem dX6_canFrom_91 : decode cX6_canFrom 91 = .ok (.iload_n 3, 1) := by decide +kernel
theorem dX6_canFrom_92 : decode cX6_canFrom 92 = .ok (.iload_n 2, 1) := by decide +kernel
theorem dX6_canFrom_93 : decode cX6_canFrom 93 = .ok (.invokevirtual 170, 3) := by decide +kernel
theorem dX6_canFrom_96 : decode cX6_canFrom 96 = .ok (.ifCond .eq 5, 3) := by decide +kernel
theorem dX6_canFrom_99 : decode cX6_canFrom 99 = .ok (.iload_n 3, 1) := by decide +kernel
theorem dX6_canFrom_100 : decode cX6_canFrom 100 = .ok (.ireturn, 1) := by decide +kernel
theorem dX6_canFrom_101 : decode cX6_canFrom 101 = .ok (.iinc 3 1, 3) := by decide +kernel
theorem dX6_canFrom_104 : decode cX6_canFrom 104 = .ok (.goto (-67), 3) := by decide +kernel
theorem dX6_canFrom_107 : decode cX6_canFrom 107 = .ok (.bipush (-9), 2) := by decide +kernel
theorem dX6_canFrom_109 : decode cX6_canFrom 109 = .ok (.ireturn, 1) := by decide +kernel
theorem dX6_judge_0 : decode cX6_judge 0 = .ok (.iload_n 1, 1) := by decide +kernel
theorem dX6_judge_1 : decode cX6_judge 1 = .ok (.iconst 2, 1) := by decide +kernel
theorem dX6_judge_2 : decode cX6_judge 2 = .ok (.invokestatic 46, 3) := by decide +kernel
theorem dX6_judge_5 : decode cX6_judge 5 = .ok (.ifCond .ne 10, 3) := by decide +kernel
theorem dX6_judge_8 : decode cX6_judge 8 = .ok (.aload_n 0, 1) := by decide +kernel
theorem dX6_judge_9 : decode cX6_judge 9 = .ok (.bipush (-2), 2) := by decide +kernel
theorem dX6_judge_11 : decode cX6_judge 11 = .ok (.invokevirtual 50, 3) := by decide +kernel
theorem dX6_judge_14 : decode cX6_judge 14 = .ok (.ireturn, 1) := by decide +kernel
theorem dX6_judge_15 : decode cX6_judge 15 = .ok (.aload_n 0, 1) := by decide +kernel
theorem dX6_judge_16 : decode cX6_judge 16 = .ok (.getfield 207, 3) := by decide +kernel
theorem dX6_judge_19 : decode cX6_judge 19 = .ok (.istore_n 2, 1) := by decide +kernel
theorem dX6_judge_20 : decode cX6_judge 20 = .ok (.aload_n 0, 1) := by decide +kernel
theorem dX6_judge_21 : decode cX6_judge 21 = .ok (.iconst 0, 1) := by decide +kernel
theorem dX6_judge_22 : decode cX6_judge 22 = .ok (.putfield 207, 3) := by decide +kernel
theorem dX6_judge_25 : decode cX6_judge 25 = .ok (.aload_n 0, 1) := by decide +kernel
theorem dX6_judge_26 : decode cX6_judge 26 = .ok (.invokevirtual 180, 3) := by decide +kernel
theorem dX6_judge_29 : decode cX6_judge 29 = .ok (.bipush (-9), 2) := by decide +kernel
theorem dX6_judge_31 : decode cX6_judge 31 = .ok (.istore_n 3, 1) := by decide +kernel
theorem dX6_judge_32 : decode cX6_judge 32 = .ok (.iconst 0, 1) := by decide +kernel
theorem dX6_judge_33 : decode cX6_judge 33 = .ok (.istore 4, 2) := by decide +kernel
theorem dX6_judge_35 : decode cX6_judge 35 = .ok (.iload 4, 2) := by decide +kernel
theorem dX6_judge_37 : decode cX6_judge 37 = .ok (.iload_n 2, 1) := by decide +kernel
theorem dX6_judge_38 : decode cX6_judge 38 = .ok (.if_icmp .ge 86, 3) := by decide +kernel
theorem dX6_judge_41 : decode cX6_judge 41 = .ok (.aload_n 0, 1) := by decide +kernel
theorem dX6_judge_42 : decode cX6_judge 42 = .ok (.iload_n 3, 1) := by decide +kernel
theorem dX6_judge_43 : decode cX6_judge 43 = .ok (.ifCond .ge 7, 3) := by decide +kernel
theorem dX6_judge_46 : decode cX6_judge 46 = .ok (.iconst 0, 1) := by decide +kernel
theorem dX6_judge_47 : decode cX6_judge 47 = .ok (.goto 6, 3) := by decide +kernel
theorem dX6_judge_50 : decode cX6_judge 50 = .ok (.iload_n 3, 1) := by decide +kernel
theorem dX6_judge_51 : decode cX6_judge 51 = .ok (.iconst 1, 1) := by decide +kernel
theorem dX6_judge_52 : decode cX6_judge 52 = .ok (.iadd, 1) := by decide +kernel
theorem dX6_judge_53 : decode cX6_judge 53 = .ok (.aload_n 0, 1) := by decide +kernel
theorem dX6_judge_54 : decode cX6_judge 54 = .ok (.getfield 43, 3) := by decide +kernel
theorem dX6_judge_57 : decode cX6_judge 57 = .ok (.iload 4, 2) := by decide +kernel
theorem dX6_judge_59 : decode cX6_judge 59 = .ok (.iaload, 1) := by decide +kernel
theorem dX6_judge_60 : decode cX6_judge 60 = .ok (.invokevirtual 210, 3) := by decide +kernel
theorem dX6_judge_63 : decode cX6_judge 63 = .ok (.istore 5, 2) := by decide +kernel
theorem dX6_judge_65 : decode cX6_judge 65 = .ok (.iload 5, 2) := by decide +kernel
theorem dX6_judge_67 : decode cX6_judge 67 = .ok (.ifCond .ge 14, 3) := by decide +kernel
theorem dX6_judge_70 : decode cX6_judge 70 = .ok (.iload_n 1, 1) := by decide +kernel
theorem dX6_judge_71 : decode cX6_judge 71 = .ok (.ifCond .ne 8, 3) := by decide +kernel
theorem dX6_judge_74 : decode cX6_judge 74 = .ok (.iload 4, 2) := by decide +kernel
theorem dX6_judge_76 : decode cX6_judge 76 = .ok (.goto 4, 3) := by decide +kernel
theorem dX6_judge_79 : decode cX6_judge 79 = .ok (.iload_n 3, 1) := by decide +kernel
theorem dX6_judge_80 : decode cX6_judge 80 = .ok (.ireturn, 1) := by decide +kernel
theorem dX6_judge_81 : decode cX6_judge 81 = .ok (.aload_n 0, 1) := by decide +kernel
theorem dX6_judge_82 : decode cX6_judge 82 = .ok (.getfield 43, 3) := by decide +kernel
theorem dX6_judge_85 : decode cX6_judge 85 = .ok (.iload 4, 2) := by decide +kernel
theorem dX6_judge_87 : decode cX6_judge 87 = .ok (.iaload, 1) := by decide +kernel
theorem dX6_judge_88 : decode cX6_judge 88 = .ok (.bipush 9, 2) := by decide +kernel
theorem dX6_judge_90 : decode cX6_judge 90 = .ok (.if_icmp .ne 12, 3) := by decide +kernel
theorem dX6_judge_93 : decode cX6_judge 93 = .ok (.aload_n 0, 1) := by decide +kernel
theorem dX6_judge_94 : decode cX6_judge 94 = .ok (.iload 5, 2) := by decide +kernel
theorem dX6_judge_96 : decode cX6_judge 96 = .ok (.invokevirtual 164, 3) := by decide +kernel
theorem dX6_judge_99 : decode cX6_judge 99 = .ok (.goto 16, 3) := by decide +kernel
theorem dX6_judge_102 : decode cX6_judge 102 = .ok (.aload_n 0, 1) := by decide +kernel
theorem dX6_judge_103 : decode cX6_judge 103 = .ok (.iload 5, 2) := by decide +kernel
theorem dX6_judge_105 : decode cX6_judge 105 = .ok (.aload_n 0, 1) := by decide +kernel
theorem dX6_judge_106 : decode cX6_judge 106 = .ok (.getfield 43, 3) := by decide +kernel
theorem dX6_judge_109 : decode cX6_judge 109 = .ok (.iload 4, 2) := by decide +kernel
theorem dX6_judge_111 : decode cX6_judge 111 = .ok (.iaload, 1) := by decide +kernel
theorem dX6_judge_112 : decode cX6_judge 112 = .ok (.invokevirtual 176, 3) := by decide +kernel
theorem dX6_judge_115 : decode cX6_judge 115 = .ok (.iload 5, 2) := by decide +kernel
theorem dX6_judge_117 : decode cX6_judge 117 = .ok (.istore_n 3, 1) := by decide +kernel
theorem dX6_judge_118 : decode cX6_judge 118 = .ok (.iinc 4 1, 3) := by decide +kernel
theorem dX6_judge_121 : decode cX6_judge 121 = .ok (.goto (-86), 3) := by decide +kernel
theorem dX6_judge_124 : decode cX6_judge 124 = .ok (.iload_n 1, 1) := by decide +kernel
theorem dX6_judge_125 : decode cX6_judge 125 = .ok (.ifCond .ne 8, 3) := by decide +kernel
theorem dX6_judge_128 : decode cX6_judge 128 = .ok (.bipush (-9), 2) := by decide +kernel
theorem dX6_judge_130 : decode cX6_judge 130 = .ok (.goto 4, 3) := by decide +kernel
theorem dX6_judge_133 : decode cX6_judge 133 = .ok (.iload_n 3, 1) := by decide +kernel
theorem dX6_judge_134 : decode cX6_judge 134 = .ok (.ireturn, 1) := by decide +kernel
theorem dX6_image_0 : decode cX6_image 0 = .ok (.iconst 0, 1) := by decide +kernel
theorem dX6_image_1 : decode cX6_image 1 = .ok (.istore_n 1, 1) := by decide +kernel
theorem dX6_image_2 : decode cX6_image 2 = .ok (.iload_n 1, 1) := by decide +kernel
theorem dX6_image_3 : decode cX6_image 3 = .ok (.bipush 47, 2) := by decide +kernel
theorem dX6_image_5 : decode cX6_image 5 = .ok (.if_icmp .ge 21, 3) := by decide +kernel
theorem dX6_image_8 : decode cX6_image 8 = .ok (.aload_n 0, 1) := by decide +kernel
theorem dX6_image_9 : decode cX6_image 9 = .ok (.getfield 16, 3) := by decide +kernel
theorem dX6_image_12 : decode cX6_image 12 = .ok (.iload_n 1, 1) := by decide +kernel
theorem dX6_image_13 : decode cX6_image 13 = .ok (.aload_n 0, 1) := by decide +kernel
theorem dX6_image_14 : decode cX6_image 14 = .ok (.getfield 13, 3) := by decide +kernel
theorem dX6_image_17 : decode cX6_image 17 = .ok (.iload_n 1, 1) := by decide +kernel
theorem dX6_image_18 : decode cX6_image 18 = .ok (.iaload, 1) := by decide +kernel
theorem dX6_image_19 : decode cX6_image 19 = .ok (.iastore, 1) := by decide +kernel
theorem dX6_image_20 : decode cX6_image 20 = .ok (.iinc 1 1, 3) := by decide +kernel
theorem dX6_image_23 : decode cX6_image 23 = .ok (.goto (-21), 3) := by decide +kernel
theorem dX6_image_26 : decode cX6_image 26 = .ok (.aload_n 0, 1) := by decide +kernel
theorem dX6_image_27 : decode cX6_image 27 = .ok (.iconst 1, 1) := by decide +kernel
theorem dX6_image_28 : decode cX6_image 28 = .ok (.putfield 214, 3) := by decide +kernel
theorem dX6_image_31 : decode cX6_image 31 = .ok (.aload_n 0, 1) := by decide +kernel
theorem dX6_image_32 : decode cX6_image 32 = .ok (.getfield 13, 3) := by decide +kernel
theorem dX6_image_35 : decode cX6_image 35 = .ok (.iconst 1, 1) := by decide +kernel
theorem dX6_image_36 : decode cX6_image 36 = .ok (.iaload, 1) := by decide +kernel
theorem dX6_image_37 : decode cX6_image 37 = .ok (.ireturn, 1) := by decide +kernel
theorem dX6_on_0 : decode cX6_on 0 = .ok (.aload_n 0, 1) := by decide +kernel
theorem dX6_on_1 : decode cX6_on 1 = .ok (.getfield 214, 3) := by decide +kernel
theorem dX6_on_4 : decode cX6_on 4 = .ok (.ifCond .ne 10, 3) := by decide +kernel
theorem dX6_on_7 : decode cX6_on 7 = .ok (.aload_n 0, 1) := by decide +kernel
theorem dX6_on_8 : decode cX6_on 8 = .ok (.bipush (-3), 2) := by decide +kernel
theorem dX6_on_10 : decode cX6_on 10 = .ok (.invokevirtual 50, 3) := by decide +kernel
theorem dX6_on_13 : decode cX6_on 13 = .ok (.ireturn, 1) := by decide +kernel
theorem dX6_on_14 : decode cX6_on 14 = .ok (.iconst 0, 1) := by decide +kernel
theorem dX6_on_15 : decode cX6_on 15 = .ok (.istore_n 1, 1) := by decide +kernel
theorem dX6_on_16 : decode cX6_on 16 = .ok (.iload_n 1, 1) := by decide +kernel
theorem dX6_on_17 : decode cX6_on 17 = .ok (.bipush 47, 2) := by decide +kernel
theorem dX6_on_19 : decode cX6_on 19 = .ok (.if_icmp .ge 21, 3) := by decide +kernel
theorem dX6_on_22 : decode cX6_on 22 = .ok (.aload_n 0, 1) := by decide +kernel
theorem dX6_on_23 : decode cX6_on 23 = .ok (.getfield 13, 3) := by decide +kernel
theorem dX6_on_26 : decode cX6_on 26 = .ok (.iload_n 1, 1) := by decide +kernel
theorem dX6_on_27 : decode cX6_on 27 = .ok (.aload_n 0, 1) := by decide +kernel
theorem dX6_on_28 : decode cX6_on 28 = .ok (.getfield 16, 3) := by decide +kernel
theorem dX6_on_31 : decode cX6_on 31 = .ok (.iload_n 1, 1) := by decide +kernel
theorem dX6_on_32 : decode cX6_on 32 = .ok (.iaload, 1) := by decide +kernel
theorem dX6_on_33 : decode cX6_on 33 = .ok (.iastore, 1) := by decide +kernel
theorem dX6_on_34 : decode cX6_on 34 = .ok (.iinc 1 1, 3) := by decide +kernel
theorem dX6_on_37 : decode cX6_on 37 = .ok (.goto (-21), 3) := by decide +kernel
theorem dX6_on_40 : decode cX6_on 40 = .ok (.aload_n 0, 1) := by decide +kernel
theorem dX6_on_41 : decode cX6_on 41 = .ok (.getfield 13, 3) := by decide +kernel
theorem dX6_on_44 : decode cX6_on 44 = .ok (.iconst 1, 1) := by decide +kernel
theorem dX6_on_45 : decode cX6_on 45 = .ok (.iaload, 1) := by decide +kernel
theorem dX6_on_46 : decode cX6_on 46 = .ok (.ireturn, 1) := by decide +kernel
theorem dX6_count_0 : decode cX6_count 0 = .ok (.iload_n 1, 1) := by decide +kernel
theorem dX6_count_1 : decode cX6_count 1 = .ok (.bipush 10, 2) := by decide +kernel
theorem dX6_count_3 : decode cX6_count 3 = .ok (.if_icmp .le 19, 3) := by decide +kernel
theorem dX6_count_6 : decode cX6_count 6 = .ok (.iload_n 1, 1) := by decide +kernel
theorem dX6_count_7 : decode cX6_count 7 = .ok (.bipush 17, 2) := by decide +kernel
theorem dX6_count_9 : decode cX6_count 9 = .ok (.if_icmp .ge 13, 3) := by decide +kernel
theorem dX6_count_12 : decode cX6_count 12 = .ok (.aload_n 0, 1) := by decide +kernel
theorem dX6_count_13 : decode cX6_count 13 = .ok (.getfield 7, 3) := by decide +kernel
theorem dX6_count_16 : decode cX6_count 16 = .ok (.iload_n 1, 1) := by decide +kernel
theorem dX6_count_17 : decode cX6_count 17 = .ok (.bipush 10, 2) := by decide +kernel
theorem dX6_count_19 : decode cX6_count 19 = .ok (.isub, 1) := by decide +kernel
theorem dX6_count_20 : decode cX6_count 20 = .ok (.iaload, 1) := by decide +kernel
theorem dX6_count_21 : decode cX6_count 21 = .ok (.ireturn, 1) := by decide +kernel
theorem dX6_count_22 : decode cX6_count 22 = .ok (.iconst 0, 1) := by decide +kernel
theorem dX6_count_23 : decode cX6_count 23 = .ok (.istore_n 2, 1) := by decide +kernel
theorem dX6_count_24 : decode cX6_count 24 = .ok (.iload_n 1, 1) := by decide +kernel
theorem dX6_count_25 : decode cX6_count 25 = .ok (.tableswitch 117 0 7 #[47, 47, 47, 54, 59, 100, 107, 112], 47) := by decide +kernel
theorem dX6_count_72 : decode cX6_count 72 = .ok (.aload_n 0, 1) := by decide +kernel
theorem dX6_count_73 : decode cX6_count 73 = .ok (.getfield 13, 3) := by decide +kernel
theorem dX6_count_76 : decode cX6_count 76 = .ok (.iload_n 1, 1) := by decide +kernel
theorem dX6_count_77 : decode cX6_count 77 = .ok (.iaload, 1) := by decide +kernel
theorem dX6_count_78 : decode cX6_count 78 = .ok (.ireturn, 1) := by decide +kernel
theorem dX6_count_79 : decode cX6_count 79 = .ok (.aload_n 0, 1) := by decide +kernel
theorem dX6_count_80 : decode cX6_count 80 = .ok (.invokevirtual 139, 3) := by decide +kernel
theorem dX6_count_83 : decode cX6_count 83 = .ok (.ireturn, 1) := by decide +kernel
theorem dX6_count_84 : decode cX6_count 84 = .ok (.aload_n 0, 1) := by decide +kernel
theorem dX6_count_85 : decode cX6_count 85 = .ok (.invokevirtual 186, 3) := by decide +kernel
theorem dX6_count_88 : decode cX6_count 88 = .ok (.iconst 0, 1) := by decide +kernel
theorem dX6_count_89 : decode cX6_count 89 = .ok (.istore_n 3, 1) := by decide +kernel
theorem dX6_count_90 : decode cX6_count 90 = .ok (.iload_n 3, 1) := by decide +kernel
theorem dX6_count_91 : decode cX6_count 91 = .ok (.aload_n 0, 1) := by decide +kernel
theorem dX6_count_92 : decode cX6_count 92 = .ok (.getfield 13, 3) := by decide +kernel
theorem dX6_count_95 : decode cX6_count 95 = .ok (.iconst 1, 1) := by decide +kernel
theorem dX6_count_96 : decode cX6_count 96 = .ok (.iaload, 1) := by decide +kernel
theorem dX6_count_97 : decode cX6_count 97 = .ok (.if_icmp .ge 26, 3) := by decide +kernel
theorem dX6_count_100 : decode cX6_count 100 = .ok (.iload_n 2, 1) := by decide +kernel
theorem dX6_count_101 : decode cX6_count 101 = .ok (.aload_n 0, 1) := by decide +kernel
theorem dX6_count_102 : decode cX6_count 102 = .ok (.getfield 34, 3) := by decide +kernel
theorem dX6_count_105 : decode cX6_count 105 = .ok (.iload_n 3, 1) := by decide +kernel
theorem dX6_count_106 : decode cX6_count 106 = .ok (.iaload, 1) := by decide +kernel
theorem dX6_count_107 : decode cX6_count 107 = .ok (.ifCond .lt 7, 3) := by decide +kernel
theorem dX6_count_110 : decode cX6_count 110 = .ok (.iconst 1, 1) := by decide +kernel
theorem dX6_count_111 : decode cX6_count 111 = .ok (.goto 4, 3) := by decide +kernel
theorem dX6_count_114 : decode cX6_count 114 = .ok (.iconst 0, 1) := by decide +kernel
theorem dX6_count_115 : decode cX6_count 115 = .ok (.iadd, 1) := by decide +kernel
theorem dX6_count_116 : decode cX6_count 116 = .ok (.istore_n 2, 1) := by decide +kernel
theorem dX6_count_117 : decode cX6_count 117 = .ok (.iinc 3 1, 3) := by decide +kernel
theorem dX6_count_120 : decode cX6_count 120 = .ok (.goto (-30), 3) := by decide +kernel
theorem dX6_count_123 : decode cX6_count 123 = .ok (.iload_n 2, 1) := by decide +kernel
theorem dX6_count_124 : decode cX6_count 124 = .ok (.ireturn, 1) := by decide +kernel
theorem dX6_count_125 : decode cX6_count 125 = .ok (.aload_n 0, 1) := by decide +kernel
theorem dX6_count_126 : decode cX6_count 126 = .ok (.getfield 13, 3) := by decide +kernel
theorem dX6_count_129 : decode cX6_count 129 = .ok (.iconst 3, 1) := by decide +kernel
theorem dX6_count_130 : decode cX6_count 130 = .ok (.iaload, 1) := by decide +kernel
theorem dX6_count_131 : decode cX6_count 131 = .ok (.ireturn, 1) := by decide +kernel
theorem dX6_count_132 : decode cX6_count 132 = .ok (.aload_n 0, 1) := by decide +kernel
theorem dX6_count_133 : decode cX6_count 133 = .ok (.getfield 207, 3) := by decide +kernel
theorem dX6_count_136 : decode cX6_count 136 = .ok (.ireturn, 1) := by decide +kernel
theorem dX6_count_137 : decode cX6_count 137 = .ok (.aload_n 0, 1) := by decide +kernel
theorem dX6_count_138 : decode cX6_count 138 = .ok (.getfield 54, 3) := by decide +kernel
theorem dX6_count_141 : decode cX6_count 141 = .ok (.ireturn, 1) := by decide +kernel
theorem dX6_count_142 : decode cX6_count 142 = .ok (.bipush (-9), 2) := by decide +kernel
theorem dX6_count_144 : decode cX6_count 144 = .ok (.ireturn, 1) := by decide +kernel
theorem dL_law_0 : decode cL_law 0 = .ok (.new 7, 3) := by decide +kernel
theorem dL_law_3 : decode cL_law 3 = .ok (.dup, 1) := by decide +kernel
theorem dL_law_4 : decode cL_law 4 = .ok (.invokespecial 9, 3) := by decide +kernel
theorem dL_law_7 : decode cL_law 7 = .ok (.astore_n 1, 1) := by decide +kernel
theorem dL_law_8 : decode cL_law 8 = .ok (.new 10, 3) := by decide +kernel
theorem dL_law_11 : decode cL_law 11 = .ok (.dup, 1) := by decide +kernel
theorem dL_law_12 : decode cL_law 12 = .ok (.invokespecial 12, 3) := by decide +kernel
theorem dL_law_15 : decode cL_law 15 = .ok (.astore_n 2, 1) := by decide +kernel
theorem dL_law_16 : decode cL_law 16 = .ok (.iconst 0, 1) := by decide +kernel
theorem dL_law_17 : decode cL_law 17 = .ok (.istore_n 3, 1) := by decide +kernel
theorem dL_law_18 : decode cL_law 18 = .ok (.iload_n 3, 1) := by decide +kernel
theorem dL_law_19 : decode cL_law 19 = .ok (.aload_n 0, 1) := by decide +kernel
theorem dL_law_20 : decode cL_law 20 = .ok (.arraylength, 1) := by decide +kernel
theorem dL_law_21 : decode cL_law 21 = .ok (.iconst 4, 1) := by decide +kernel
theorem dL_law_22 : decode cL_law 22 = .ok (.isub, 1) := by decide +kernel
theorem dL_law_23 : decode cL_law 23 = .ok (.if_icmp .gt 749, 3) := by decide +kernel
theorem dL_law_26 : decode cL_law 26 = .ok (.aload_n 0, 1) := by decide +kernel
theorem dL_law_27 : decode cL_law 27 = .ok (.iload_n 3, 1) := by decide +kernel
theorem dL_law_28 : decode cL_law 28 = .ok (.iaload, 1) := by decide +kernel
theorem dL_law_29 : decode cL_law 29 = .ok (.bipush 31, 2) := by decide +kernel
theorem dL_law_31 : decode cL_law 31 = .ok (.iand, 1) := by decide +kernel
theorem dL_law_32 : decode cL_law 32 = .ok (.tableswitch 734 0 25 #[120, 183, 196, 229, 262, 295, 344, 377, 400, 423, 436, 459, 482, 495, 508, 531, 554, 567, 590, 613, 626, 639, 662, 685, 698, 711], 120) := by decide +kernel
theorem dL_law_152 : decode cL_law 152 = .ok (.aload_n 1, 1) := by decide +kernel
theorem dL_law_153 : decode cL_law 153 = .ok (.aload_n 0, 1) := by decide +kernel
theorem dL_law_154 : decode cL_law 154 = .ok (.iload_n 3, 1) := by decide +kernel
theorem dL_law_155 : decode cL_law 155 = .ok (.iconst 1, 1) := by decide +kernel
theorem dL_law_156 : decode cL_law 156 = .ok (.iadd, 1) := by decide +kernel
theorem dL_law_157 : decode cL_law 157 = .ok (.iaload, 1) := by decide +kernel
theorem dL_law_158 : decode cL_law 158 = .ok (.aload_n 0, 1) := by decide +kernel
theorem dL_law_159 : decode cL_law 159 = .ok (.iload_n 3, 1) := by decide +kernel
theorem dL_law_160 : decode cL_law 160 = .ok (.iconst 2, 1) := by decide +kernel
theorem dL_law_161 : decode cL_law 161 = .ok (.iadd, 1) := by decide +kernel
theorem dL_law_162 : decode cL_law 162 = .ok (.iaload, 1) := by decide +kernel
theorem dL_law_163 : decode cL_law 163 = .ok (.i2l, 1) := by decide +kernel
theorem dL_law_164 : decode cL_law 164 = .ok (.bipush 32, 2) := by decide +kernel
theorem dL_law_166 : decode cL_law 166 = .ok (.lshl, 1) := by decide +kernel
theorem dL_law_167 : decode cL_law 167 = .ok (.aload_n 0, 1) := by decide +kernel
theorem dL_law_168 : decode cL_law 168 = .ok (.iload_n 3, 1) := by decide +kernel
theorem dL_law_169 : decode cL_law 169 = .ok (.iconst 3, 1) := by decide +kernel
theorem dL_law_170 : decode cL_law 170 = .ok (.iadd, 1) := by decide +kernel
theorem dL_law_171 : decode cL_law 171 = .ok (.iaload, 1) := by decide +kernel
theorem dL_law_172 : decode cL_law 172 = .ok (.i2l, 1) := by decide +kernel
theorem dL_law_173 : decode cL_law 173 = .ok (.ldc2_w 13, 3) := by decide +kernel
theorem dL_law_176 : decode cL_law 176 = .ok (.land, 1) := by decide +kernel
theorem dL_law_177 : decode cL_law 177 = .ok (.lor, 1) := by decide +kernel
theorem dL_law_178 : decode cL_law 178 = .ok (.invokevirtual 15, 3) := by decide +kernel
theorem dL_law_181 : decode cL_law 181 = .ok (.aload_n 2, 1) := by decide +kernel
theorem dL_law_182 : decode cL_law 182 = .ok (.aload_n 0, 1) := by decide +kernel
theorem dL_law_183 : decode cL_law 183 = .ok (.iload_n 3, 1) := by decide +kernel
theorem dL_law_184 : decode cL_law 184 = .ok (.iconst 1, 1) := by decide +kernel
theorem dL_law_185 : decode cL_law 185 = .ok (.iadd, 1) := by decide +kernel
theorem dL_law_186 : decode cL_law 186 = .ok (.iaload, 1) := by decide +kernel
theorem dL_law_187 : decode cL_law 187 = .ok (.aload_n 0, 1) := by decide +kernel
theorem dL_law_188 : decode cL_law 188 = .ok (.iload_n 3, 1) := by decide +kernel
theorem dL_law_189 : decode cL_law 189 = .ok (.iconst 2, 1) := by decide +kernel
theorem dL_law_190 : decode cL_law 190 = .ok (.iadd, 1) := by decide +kernel
theorem dL_law_191 : decode cL_law 191 = .ok (.iaload, 1) := by decide +kernel
theorem dL_law_192 : decode cL_law 192 = .ok (.i2l, 1) := by decide +kernel
theorem dL_law_193 : decode cL_law 193 = .ok (.bipush 32, 2) := by decide +kernel
theorem dL_law_195 : decode cL_law 195 = .ok (.lshl, 1) := by decide +kernel
theorem dL_law_196 : decode cL_law 196 = .ok (.aload_n 0, 1) := by decide +kernel
theorem dL_law_197 : decode cL_law 197 = .ok (.iload_n 3, 1) := by decide +kernel
theorem dL_law_198 : decode cL_law 198 = .ok (.iconst 3, 1) := by decide +kernel
theorem dL_law_199 : decode cL_law 199 = .ok (.iadd, 1) := by decide +kernel
theorem dL_law_200 : decode cL_law 200 = .ok (.iaload, 1) := by decide +kernel
theorem dL_law_201 : decode cL_law 201 = .ok (.i2l, 1) := by decide +kernel
theorem dL_law_202 : decode cL_law 202 = .ok (.ldc2_w 13, 3) := by decide +kernel
theorem dL_law_205 : decode cL_law 205 = .ok (.land, 1) := by decide +kernel
theorem dL_law_206 : decode cL_law 206 = .ok (.lor, 1) := by decide +kernel
theorem dL_law_207 : decode cL_law 207 = .ok (.invokevirtual 19, 3) := by decide +kernel
theorem dL_law_210 : decode cL_law 210 = .ok (.if_icmp .eq 556, 3) := by decide +kernel
theorem dL_law_213 : decode cL_law 213 = .ok (.iconst 0, 1) := by decide +kernel
theorem dL_law_214 : decode cL_law 214 = .ok (.ireturn, 1) := by decide +kernel
theorem dL_law_215 : decode cL_law 215 = .ok (.aload_n 1, 1) := by decide +kernel
theorem dL_law_216 : decode cL_law 216 = .ok (.invokevirtual 20, 3) := by decide +kernel
theorem dL_law_219 : decode cL_law 219 = .ok (.aload_n 2, 1) := by decide +kernel
theorem dL_law_220 : decode cL_law 220 = .ok (.invokevirtual 24, 3) := by decide +kernel
theorem dL_law_223 : decode cL_law 223 = .ok (.if_icmp .eq 543, 3) := by decide +kernel
theorem dL_law_226 : decode cL_law 226 = .ok (.iconst 0, 1) := by decide +kernel
theorem dL_law_227 : decode cL_law 227 = .ok (.ireturn, 1) := by decide +kernel
theorem dL_law_228 : decode cL_law 228 = .ok (.aload_n 1, 1) := by decide +kernel
theorem dL_law_229 : decode cL_law 229 = .ok (.aload_n 0, 1) := by decide +kernel
theorem dL_law_230 : decode cL_law 230 = .ok (.iload_n 3, 1) := by decide +kernel
theorem dL_law_231 : decode cL_law 231 = .ok (.iconst 1, 1) := by decide +kernel
theorem dL_law_232 : decode cL_law 232 = .ok (.iadd, 1) := by decide +kernel
theorem dL_law_233 : decode cL_law 233 = .ok (.iaload, 1) := by decide +kernel
theorem dL_law_234 : decode cL_law 234 = .ok (.aload_n 0, 1) := by decide +kernel
theorem dL_law_235 : decode cL_law 235 = .ok (.iload_n 3, 1) := by decide +kernel
theorem dL_law_236 : decode cL_law 236 = .ok (.iconst 2, 1) := by decide +kernel
theorem dL_law_237 : decode cL_law 237 = .ok (.iadd, 1) := by decide +kernel
theorem dL_law_238 : decode cL_law 238 = .ok (.iaload, 1) := by decide +kernel
theorem dL_law_239 : decode cL_law 239 = .ok (.invokevirtual 25, 3) := by decide +kernel
theorem dL_law_242 : decode cL_law 242 = .ok (.aload_n 2, 1) := by decide +kernel
theorem dL_law_243 : decode cL_law 243 = .ok (.aload_n 0, 1) := by decide +kernel
theorem dL_law_244 : decode cL_law 244 = .ok (.iload_n 3, 1) := by decide +kernel
theorem dL_law_245 : decode cL_law 245 = .ok (.iconst 1, 1) := by decide +kernel
theorem dL_law_246 : decode cL_law 246 = .ok (.iadd, 1) := by decide +kernel
theorem dL_law_247 : decode cL_law 247 = .ok (.iaload, 1) := by decide +kernel
theorem dL_law_248 : decode cL_law 248 = .ok (.aload_n 0, 1) := by decide +kernel
theorem dL_law_249 : decode cL_law 249 = .ok (.iload_n 3, 1) := by decide +kernel
theorem dL_law_250 : decode cL_law 250 = .ok (.iconst 2, 1) := by decide +kernel
theorem dL_law_251 : decode cL_law 251 = .ok (.iadd, 1) := by decide +kernel
theorem dL_law_252 : decode cL_law 252 = .ok (.iaload, 1) := by decide +kernel
theorem dL_law_253 : decode cL_law 253 = .ok (.invokevirtual 29, 3) := by decide +kernel
theorem dL_law_256 : decode cL_law 256 = .ok (.if_icmp .eq 510, 3) := by decide +kernel
theorem dL_law_259 : decode cL_law 259 = .ok (.iconst 0, 1) := by decide +kernel
theorem dL_law_260 : decode cL_law 260 = .ok (.ireturn, 1) := by decide +kernel
theorem dL_law_261 : decode cL_law 261 = .ok (.aload_n 1, 1) := by decide +kernel
theorem dL_law_262 : decode cL_law 262 = .ok (.aload_n 0, 1) := by decide +kernel
theorem dL_law_263 : decode cL_law 263 = .ok (.iload_n 3, 1) := by decide +kernel
theorem dL_law_264 : decode cL_law 264 = .ok (.iconst 1, 1) := by decide +kernel
theorem dL_law_265 : decode cL_law 265 = .ok (.iadd, 1) := by decide +kernel
theorem dL_law_266 : decode cL_law 266 = .ok (.iaload, 1) := by decide +kernel
theorem dL_law_267 : decode cL_law 267 = .ok (.aload_n 0, 1) := by decide +kernel
theorem dL_law_268 : decode cL_law 268 = .ok (.iload_n 3, 1) := by decide +kernel
theorem dL_law_269 : decode cL_law 269 = .ok (.iconst 2, 1) := by decide +kernel
theorem dL_law_270 : decode cL_law 270 = .ok (.iadd, 1) := by decide +kernel
theorem dL_law_271 : decode cL_law 271 = .ok (.iaload, 1) := by decide +kernel
theorem dL_law_272 : decode cL_law 272 = .ok (.invokevirtual 30, 3) := by decide +kernel
theorem dL_law_275 : decode cL_law 275 = .ok (.aload_n 2, 1) := by decide +kernel
theorem dL_law_276 : decode cL_law 276 = .ok (.aload_n 0, 1) := by decide +kernel
theorem dL_law_277 : decode cL_law 277 = .ok (.iload_n 3, 1) := by decide +kernel
theorem dL_law_278 : decode cL_law 278 = .ok (.iconst 1, 1) := by decide +kernel
theorem dL_law_279 : decode cL_law 279 = .ok (.iadd, 1) := by decide +kernel
theorem dL_law_280 : decode cL_law 280 = .ok (.iaload, 1) := by decide +kernel
theorem dL_law_281 : decode cL_law 281 = .ok (.aload_n 0, 1) := by decide +kernel
theorem dL_law_282 : decode cL_law 282 = .ok (.iload_n 3, 1) := by decide +kernel
theorem dL_law_283 : decode cL_law 283 = .ok (.iconst 2, 1) := by decide +kernel
theorem dL_law_284 : decode cL_law 284 = .ok (.iadd, 1) := by decide +kernel
theorem dL_law_285 : decode cL_law 285 = .ok (.iaload, 1) := by decide +kernel
theorem dL_law_286 : decode cL_law 286 = .ok (.invokevirtual 33, 3) := by decide +kernel
theorem dL_law_289 : decode cL_law 289 = .ok (.if_icmp .eq 477, 3) := by decide +kernel
theorem dL_law_292 : decode cL_law 292 = .ok (.iconst 0, 1) := by decide +kernel
theorem dL_law_293 : decode cL_law 293 = .ok (.ireturn, 1) := by decide +kernel
theorem dL_law_294 : decode cL_law 294 = .ok (.aload_n 1, 1) := by decide +kernel
theorem dL_law_295 : decode cL_law 295 = .ok (.aload_n 0, 1) := by decide +kernel
theorem dL_law_296 : decode cL_law 296 = .ok (.iload_n 3, 1) := by decide +kernel
theorem dL_law_297 : decode cL_law 297 = .ok (.iconst 1, 1) := by decide +kernel
theorem dL_law_298 : decode cL_law 298 = .ok (.iadd, 1) := by decide +kernel
theorem dL_law_299 : decode cL_law 299 = .ok (.iaload, 1) := by decide +kernel
theorem dL_law_300 : decode cL_law 300 = .ok (.aload_n 0, 1) := by decide +kernel
theorem dL_law_301 : decode cL_law 301 = .ok (.iload_n 3, 1) := by decide +kernel
theorem dL_law_302 : decode cL_law 302 = .ok (.iconst 2, 1) := by decide +kernel
theorem dL_law_303 : decode cL_law 303 = .ok (.iadd, 1) := by decide +kernel
theorem dL_law_304 : decode cL_law 304 = .ok (.iaload, 1) := by decide +kernel
theorem dL_law_305 : decode cL_law 305 = .ok (.invokevirtual 34, 3) := by decide +kernel
theorem dL_law_308 : decode cL_law 308 = .ok (.aload_n 2, 1) := by decide +kernel
theorem dL_law_309 : decode cL_law 309 = .ok (.aload_n 0, 1) := by decide +kernel
theorem dL_law_310 : decode cL_law 310 = .ok (.iload_n 3, 1) := by decide +kernel
theorem dL_law_311 : decode cL_law 311 = .ok (.iconst 1, 1) := by decide +kernel
theorem dL_law_312 : decode cL_law 312 = .ok (.iadd, 1) := by decide +kernel
theorem dL_law_313 : decode cL_law 313 = .ok (.iaload, 1) := by decide +kernel
theorem dL_law_314 : decode cL_law 314 = .ok (.aload_n 0, 1) := by decide +kernel
theorem dL_law_315 : decode cL_law 315 = .ok (.iload_n 3, 1) := by decide +kernel
theorem dL_law_316 : decode cL_law 316 = .ok (.iconst 2, 1) := by decide +kernel
theorem dL_law_317 : decode cL_law 317 = .ok (.iadd, 1) := by decide +kernel
theorem dL_law_318 : decode cL_law 318 = .ok (.iaload, 1) := by decide +kernel
theorem dL_law_319 : decode cL_law 319 = .ok (.invokevirtual 37, 3) := by decide +kernel
theorem dL_law_322 : decode cL_law 322 = .ok (.if_icmp .eq 444, 3) := by decide +kernel
theorem dL_law_325 : decode cL_law 325 = .ok (.iconst 0, 1) := by decide +kernel
theorem dL_law_326 : decode cL_law 326 = .ok (.ireturn, 1) := by decide +kernel
theorem dL_law_327 : decode cL_law 327 = .ok (.aload_n 1, 1) := by decide +kernel
theorem dL_law_328 : decode cL_law 328 = .ok (.aload_n 0, 1) := by decide +kernel
theorem dL_law_329 : decode cL_law 329 = .ok (.iload_n 3, 1) := by decide +kernel
theorem dL_law_330 : decode cL_law 330 = .ok (.iconst 1, 1) := by decide +kernel
theorem dL_law_331 : decode cL_law 331 = .ok (.iadd, 1) := by decide +kernel
theorem dL_law_332 : decode cL_law 332 = .ok (.iaload, 1) := by decide +kernel
theorem dL_law_333 : decode cL_law 333 = .ok (.aload_n 0, 1) := by decide +kernel
theorem dL_law_334 : decode cL_law 334 = .ok (.iload_n 3, 1) := by decide +kernel
theorem dL_law_335 : decode cL_law 335 = .ok (.iconst 2, 1) := by decide +kernel
theorem dL_law_336 : decode cL_law 336 = .ok (.iadd, 1) := by decide +kernel
theorem dL_law_337 : decode cL_law 337 = .ok (.iaload, 1) := by decide +kernel
theorem dL_law_338 : decode cL_law 338 = .ok (.ifCond .eq 7, 3) := by decide +kernel
theorem dL_law_341 : decode cL_law 341 = .ok (.iconst 1, 1) := by decide +kernel
theorem dL_law_342 : decode cL_law 342 = .ok (.goto 4, 3) := by decide +kernel
theorem dL_law_345 : decode cL_law 345 = .ok (.iconst 0, 1) := by decide +kernel
theorem dL_law_346 : decode cL_law 346 = .ok (.invokevirtual 38, 3) := by decide +kernel
theorem dL_law_349 : decode cL_law 349 = .ok (.aload_n 2, 1) := by decide +kernel
theorem dL_law_350 : decode cL_law 350 = .ok (.aload_n 0, 1) := by decide +kernel
theorem dL_law_351 : decode cL_law 351 = .ok (.iload_n 3, 1) := by decide +kernel
theorem dL_law_352 : decode cL_law 352 = .ok (.iconst 1, 1) := by decide +kernel
theorem dL_law_353 : decode cL_law 353 = .ok (.iadd, 1) := by decide +kernel
theorem dL_law_354 : decode cL_law 354 = .ok (.iaload, 1) := by decide +kernel
theorem dL_law_355 : decode cL_law 355 = .ok (.aload_n 0, 1) := by decide +kernel
theorem dL_law_356 : decode cL_law 356 = .ok (.iload_n 3, 1) := by decide +kernel
theorem dL_law_357 : decode cL_law 357 = .ok (.iconst 2, 1) := by decide +kernel
theorem dL_law_358 : decode cL_law 358 = .ok (.iadd, 1) := by decide +kernel
theorem dL_law_359 : decode cL_law 359 = .ok (.iaload, 1) := by decide +kernel
theorem dL_law_360 : decode cL_law 360 = .ok (.ifCond .eq 7, 3) := by decide +kernel
theorem dL_law_363 : decode cL_law 363 = .ok (.iconst 1, 1) := by decide +kernel
theorem dL_law_364 : decode cL_law 364 = .ok (.goto 4, 3) := by decide +kernel
theorem dL_law_367 : decode cL_law 367 = .ok (.iconst 0, 1) := by decide +kernel
theorem dL_law_368 : decode cL_law 368 = .ok (.invokevirtual 42, 3) := by decide +kernel
theorem dL_law_371 : decode cL_law 371 = .ok (.if_icmp .eq 395, 3) := by decide +kernel
theorem dL_law_374 : decode cL_law 374 = .ok (.iconst 0, 1) := by decide +kernel
theorem dL_law_375 : decode cL_law 375 = .ok (.ireturn, 1) := by decide +kernel
theorem dL_law_376 : decode cL_law 376 = .ok (.aload_n 1, 1) := by decide +kernel
theorem dL_law_377 : decode cL_law 377 = .ok (.aload_n 0, 1) := by decide +kernel
theorem dL_law_378 : decode cL_law 378 = .ok (.iload_n 3, 1) := by decide +kernel
theorem dL_law_379 : decode cL_law 379 = .ok (.iconst 1, 1) := by decide +kernel
theorem dL_law_380 : decode cL_law 380 = .ok (.iadd, 1) := by decide +kernel
theorem dL_law_381 : decode cL_law 381 = .ok (.iaload, 1) := by decide +kernel
theorem dL_law_382 : decode cL_law 382 = .ok (.aload_n 0, 1) := by decide +kernel
theorem dL_law_383 : decode cL_law 383 = .ok (.iload_n 3, 1) := by decide +kernel
theorem dL_law_384 : decode cL_law 384 = .ok (.iconst 2, 1) := by decide +kernel
theorem dL_law_385 : decode cL_law 385 = .ok (.iadd, 1) := by decide +kernel
theorem dL_law_386 : decode cL_law 386 = .ok (.iaload, 1) := by decide +kernel
theorem dL_law_387 : decode cL_law 387 = .ok (.invokevirtual 43, 3) := by decide +kernel
theorem dL_law_390 : decode cL_law 390 = .ok (.aload_n 2, 1) := by decide +kernel
theorem dL_law_391 : decode cL_law 391 = .ok (.aload_n 0, 1) := by decide +kernel
theorem dL_law_392 : decode cL_law 392 = .ok (.iload_n 3, 1) := by decide +kernel
theorem dL_law_393 : decode cL_law 393 = .ok (.iconst 1, 1) := by decide +kernel
theorem dL_law_394 : decode cL_law 394 = .ok (.iadd, 1) := by decide +kernel
theorem dL_law_395 : decode cL_law 395 = .ok (.iaload, 1) := by decide +kernel
theorem dL_law_396 : decode cL_law 396 = .ok (.aload_n 0, 1) := by decide +kernel
theorem dL_law_397 : decode cL_law 397 = .ok (.iload_n 3, 1) := by decide +kernel
theorem dL_law_398 : decode cL_law 398 = .ok (.iconst 2, 1) := by decide +kernel
theorem dL_law_399 : decode cL_law 399 = .ok (.iadd, 1) := by decide +kernel
theorem dL_law_400 : decode cL_law 400 = .ok (.iaload, 1) := by decide +kernel
theorem dL_law_401 : decode cL_law 401 = .ok (.invokevirtual 46, 3) := by decide +kernel
theorem dL_law_404 : decode cL_law 404 = .ok (.if_icmp .eq 362, 3) := by decide +kernel
theorem dL_law_407 : decode cL_law 407 = .ok (.iconst 0, 1) := by decide +kernel
theorem dL_law_408 : decode cL_law 408 = .ok (.ireturn, 1) := by decide +kernel
theorem dL_law_409 : decode cL_law 409 = .ok (.aload_n 1, 1) := by decide +kernel
theorem dL_law_410 : decode cL_law 410 = .ok (.aload_n 0, 1) := by decide +kernel
theorem dL_law_411 : decode cL_law 411 = .ok (.iload_n 3, 1) := by decide +kernel
theorem dL_law_412 : decode cL_law 412 = .ok (.iconst 1, 1) := by decide +kernel
theorem dL_law_413 : decode cL_law 413 = .ok (.iadd, 1) := by decide +kernel
theorem dL_law_414 : decode cL_law 414 = .ok (.iaload, 1) := by decide +kernel
theorem dL_law_415 : decode cL_law 415 = .ok (.invokevirtual 47, 3) := by decide +kernel
theorem dL_law_418 : decode cL_law 418 = .ok (.aload_n 2, 1) := by decide +kernel
theorem dL_law_419 : decode cL_law 419 = .ok (.aload_n 0, 1) := by decide +kernel
theorem dL_law_420 : decode cL_law 420 = .ok (.iload_n 3, 1) := by decide +kernel
theorem dL_law_421 : decode cL_law 421 = .ok (.iconst 1, 1) := by decide +kernel
theorem dL_law_422 : decode cL_law 422 = .ok (.iadd, 1) := by decide +kernel
theorem dL_law_423 : decode cL_law 423 = .ok (.iaload, 1) := by decide +kernel
theorem dL_law_424 : decode cL_law 424 = .ok (.invokevirtual 51, 3) := by decide +kernel
theorem dL_law_427 : decode cL_law 427 = .ok (.if_icmp .eq 339, 3) := by decide +kernel
theorem dL_law_430 : decode cL_law 430 = .ok (.iconst 0, 1) := by decide +kernel
theorem dL_law_431 : decode cL_law 431 = .ok (.ireturn, 1) := by decide +kernel
theorem dL_law_432 : decode cL_law 432 = .ok (.aload_n 1, 1) := by decide +kernel
theorem dL_law_433 : decode cL_law 433 = .ok (.aload_n 0, 1) := by decide +kernel
theorem dL_law_434 : decode cL_law 434 = .ok (.iload_n 3, 1) := by decide +kernel
theorem dL_law_435 : decode cL_law 435 = .ok (.iconst 1, 1) := by decide +kernel
theorem dL_law_436 : decode cL_law 436 = .ok (.iadd, 1) := by decide +kernel
theorem dL_law_437 : decode cL_law 437 = .ok (.iaload, 1) := by decide +kernel
theorem dL_law_438 : decode cL_law 438 = .ok (.invokevirtual 52, 3) := by decide +kernel
theorem dL_law_441 : decode cL_law 441 = .ok (.aload_n 2, 1) := by decide +kernel
theorem dL_law_442 : decode cL_law 442 = .ok (.aload_n 0, 1) := by decide +kernel
theorem dL_law_443 : decode cL_law 443 = .ok (.iload_n 3, 1) := by decide +kernel
theorem dL_law_444 : decode cL_law 444 = .ok (.iconst 1, 1) := by decide +kernel
theorem dL_law_445 : decode cL_law 445 = .ok (.iadd, 1) := by decide +kernel
theorem dL_law_446 : decode cL_law 446 = .ok (.iaload, 1) := by decide +kernel
theorem dL_law_447 : decode cL_law 447 = .ok (.invokevirtual 55, 3) := by decide +kernel
theorem dL_law_450 : decode cL_law 450 = .ok (.if_icmp .eq 316, 3) := by decide +kernel
theorem dL_law_453 : decode cL_law 453 = .ok (.iconst 0, 1) := by decide +kernel
theorem dL_law_454 : decode cL_law 454 = .ok (.ireturn, 1) := by decide +kernel
theorem dL_law_455 : decode cL_law 455 = .ok (.aload_n 1, 1) := by decide +kernel
theorem dL_law_456 : decode cL_law 456 = .ok (.invokevirtual 56, 3) := by decide +kernel
theorem dL_law_459 : decode cL_law 459 = .ok (.aload_n 2, 1) := by decide +kernel
theorem dL_law_460 : decode cL_law 460 = .ok (.invokevirtual 59, 3) := by decide +kernel
theorem dL_law_463 : decode cL_law 463 = .ok (.if_icmp .eq 303, 3) := by decide +kernel
theorem dL_law_466 : decode cL_law 466 = .ok (.iconst 0, 1) := by decide +kernel
theorem dL_law_467 : decode cL_law 467 = .ok (.ireturn, 1) := by decide +kernel
theorem dL_law_468 : decode cL_law 468 = .ok (.aload_n 1, 1) := by decide +kernel
theorem dL_law_469 : decode cL_law 469 = .ok (.aload_n 0, 1) := by decide +kernel
theorem dL_law_470 : decode cL_law 470 = .ok (.iload_n 3, 1) := by decide +kernel
theorem dL_law_471 : decode cL_law 471 = .ok (.iconst 1, 1) := by decide +kernel
theorem dL_law_472 : decode cL_law 472 = .ok (.iadd, 1) := by decide +kernel
theorem dL_law_473 : decode cL_law 473 = .ok (.iaload, 1) := by decide +kernel
theorem dL_law_474 : decode cL_law 474 = .ok (.invokevirtual 60, 3) := by decide +kernel
theorem dL_law_477 : decode cL_law 477 = .ok (.aload_n 2, 1) := by decide +kernel
theorem dL_law_478 : decode cL_law 478 = .ok (.aload_n 0, 1) := by decide +kernel
theorem dL_law_479 : decode cL_law 479 = .ok (.iload_n 3, 1) := by decide +kernel
theorem dL_law_480 : decode cL_law 480 = .ok (.iconst 1, 1) := by decide +kernel
theorem dL_law_481 : decode cL_law 481 = .ok (.iadd, 1) := by decide +kernel
theorem dL_law_482 : decode cL_law 482 = .ok (.iaload, 1) := by decide +kernel
theorem dL_law_483 : decode cL_law 483 = .ok (.invokevirtual 63, 3) := by decide +kernel
theorem dL_law_486 : decode cL_law 486 = .ok (.if_icmp .eq 280, 3) := by decide +kernel
theorem dL_law_489 : decode cL_law 489 = .ok (.iconst 0, 1) := by decide +kernel
theorem dL_law_490 : decode cL_law 490 = .ok (.ireturn, 1) := by decide +kernel
theorem dL_law_491 : decode cL_law 491 = .ok (.aload_n 1, 1) := by decide +kernel
theorem dL_law_492 : decode cL_law 492 = .ok (.aload_n 0, 1) := by decide +kernel
theorem dL_law_493 : decode cL_law 493 = .ok (.iload_n 3, 1) := by decide +kernel
theorem dL_law_494 : decode cL_law 494 = .ok (.iconst 1, 1) := by decide +kernel
theorem dL_law_495 : decode cL_law 495 = .ok (.iadd, 1) := by decide +kernel
theorem dL_law_496 : decode cL_law 496 = .ok (.iaload, 1) := by decide +kernel
theorem dL_law_497 : decode cL_law 497 = .ok (.invokevirtual 64, 3) := by decide +kernel
theorem dL_law_500 : decode cL_law 500 = .ok (.aload_n 2, 1) := by decide +kernel
theorem dL_law_501 : decode cL_law 501 = .ok (.aload_n 0, 1) := by decide +kernel
theorem dL_law_502 : decode cL_law 502 = .ok (.iload_n 3, 1) := by decide +kernel
theorem dL_law_503 : decode cL_law 503 = .ok (.iconst 1, 1) := by decide +kernel
theorem dL_law_504 : decode cL_law 504 = .ok (.iadd, 1) := by decide +kernel
theorem dL_law_505 : decode cL_law 505 = .ok (.iaload, 1) := by decide +kernel
theorem dL_law_506 : decode cL_law 506 = .ok (.invokevirtual 67, 3) := by decide +kernel
theorem dL_law_509 : decode cL_law 509 = .ok (.if_icmp .eq 257, 3) := by decide +kernel
theorem dL_law_512 : decode cL_law 512 = .ok (.iconst 0, 1) := by decide +kernel
theorem dL_law_513 : decode cL_law 513 = .ok (.ireturn, 1) := by decide +kernel
theorem dL_law_514 : decode cL_law 514 = .ok (.aload_n 1, 1) := by decide +kernel
theorem dL_law_515 : decode cL_law 515 = .ok (.invokevirtual 68, 3) := by decide +kernel
theorem dL_law_518 : decode cL_law 518 = .ok (.aload_n 2, 1) := by decide +kernel
theorem dL_law_519 : decode cL_law 519 = .ok (.invokevirtual 71, 3) := by decide +kernel
theorem dL_law_522 : decode cL_law 522 = .ok (.if_icmp .eq 244, 3) := by decide +kernel
theorem dL_law_525 : decode cL_law 525 = .ok (.iconst 0, 1) := by decide +kernel
theorem dL_law_526 : decode cL_law 526 = .ok (.ireturn, 1) := by decide +kernel
theorem dL_law_527 : decode cL_law 527 = .ok (.aload_n 1, 1) := by decide +kernel
theorem dL_law_528 : decode cL_law 528 = .ok (.invokevirtual 72, 3) := by decide +kernel
theorem dL_law_531 : decode cL_law 531 = .ok (.aload_n 2, 1) := by decide +kernel
theorem dL_law_532 : decode cL_law 532 = .ok (.invokevirtual 75, 3) := by decide +kernel
theorem dL_law_535 : decode cL_law 535 = .ok (.if_icmp .eq 231, 3) := by decide +kernel
theorem dL_law_538 : decode cL_law 538 = .ok (.iconst 0, 1) := by decide +kernel
theorem dL_law_539 : decode cL_law 539 = .ok (.ireturn, 1) := by decide +kernel
theorem dL_law_540 : decode cL_law 540 = .ok (.aload_n 1, 1) := by decide +kernel
theorem dL_law_541 : decode cL_law 541 = .ok (.aload_n 0, 1) := by decide +kernel
theorem dL_law_542 : decode cL_law 542 = .ok (.iload_n 3, 1) := by decide +kernel
theorem dL_law_543 : decode cL_law 543 = .ok (.iconst 1, 1) := by decide +kernel
theorem dL_law_544 : decode cL_law 544 = .ok (.iadd, 1) := by decide +kernel
theorem dL_law_545 : decode cL_law 545 = .ok (.iaload, 1) := by decide +kernel
theorem dL_law_546 : decode cL_law 546 = .ok (.invokevirtual 76, 3) := by decide +kernel
theorem dL_law_549 : decode cL_law 549 = .ok (.aload_n 2, 1) := by decide +kernel
theorem dL_law_550 : decode cL_law 550 = .ok (.aload_n 0, 1) := by decide +kernel
theorem dL_law_551 : decode cL_law 551 = .ok (.iload_n 3, 1) := by decide +kernel
theorem dL_law_552 : decode cL_law 552 = .ok (.iconst 1, 1) := by decide +kernel
theorem dL_law_553 : decode cL_law 553 = .ok (.iadd, 1) := by decide +kernel
theorem dL_law_554 : decode cL_law 554 = .ok (.iaload, 1) := by decide +kernel
theorem dL_law_555 : decode cL_law 555 = .ok (.invokevirtual 79, 3) := by decide +kernel
theorem dL_law_558 : decode cL_law 558 = .ok (.if_icmp .eq 208, 3) := by decide +kernel
theorem dL_law_561 : decode cL_law 561 = .ok (.iconst 0, 1) := by decide +kernel
theorem dL_law_562 : decode cL_law 562 = .ok (.ireturn, 1) := by decide +kernel
theorem dL_law_563 : decode cL_law 563 = .ok (.aload_n 1, 1) := by decide +kernel
theorem dL_law_564 : decode cL_law 564 = .ok (.aload_n 0, 1) := by decide +kernel
theorem dL_law_565 : decode cL_law 565 = .ok (.iload_n 3, 1) := by decide +kernel
theorem dL_law_566 : decode cL_law 566 = .ok (.iconst 1, 1) := by decide +kernel
theorem dL_law_567 : decode cL_law 567 = .ok (.iadd, 1) := by decide +kernel
theorem dL_law_568 : decode cL_law 568 = .ok (.iaload, 1) := by decide +kernel
theorem dL_law_569 : decode cL_law 569 = .ok (.invokevirtual 80, 3) := by decide +kernel
theorem dL_law_572 : decode cL_law 572 = .ok (.aload_n 2, 1) := by decide +kernel
theorem dL_law_573 : decode cL_law 573 = .ok (.aload_n 0, 1) := by decide +kernel
theorem dL_law_574 : decode cL_law 574 = .ok (.iload_n 3, 1) := by decide +kernel
theorem dL_law_575 : decode cL_law 575 = .ok (.iconst 1, 1) := by decide +kernel
theorem dL_law_576 : decode cL_law 576 = .ok (.iadd, 1) := by decide +kernel
theorem dL_law_577 : decode cL_law 577 = .ok (.iaload, 1) := by decide +kernel
theorem dL_law_578 : decode cL_law 578 = .ok (.invokevirtual 83, 3) := by decide +kernel
theorem dL_law_581 : decode cL_law 581 = .ok (.if_icmp .eq 185, 3) := by decide +kernel
theorem dL_law_584 : decode cL_law 584 = .ok (.iconst 0, 1) := by decide +kernel
theorem dL_law_585 : decode cL_law 585 = .ok (.ireturn, 1) := by decide +kernel
theorem dL_law_586 : decode cL_law 586 = .ok (.aload_n 1, 1) := by decide +kernel
theorem dL_law_587 : decode cL_law 587 = .ok (.invokevirtual 84, 3) := by decide +kernel
theorem dL_law_590 : decode cL_law 590 = .ok (.aload_n 2, 1) := by decide +kernel
theorem dL_law_591 : decode cL_law 591 = .ok (.invokevirtual 87, 3) := by decide +kernel
theorem dL_law_594 : decode cL_law 594 = .ok (.if_icmp .eq 172, 3) := by decide +kernel
theorem dL_law_597 : decode cL_law 597 = .ok (.iconst 0, 1) := by decide +kernel
theorem dL_law_598 : decode cL_law 598 = .ok (.ireturn, 1) := by decide +kernel
theorem dL_law_599 : decode cL_law 599 = .ok (.aload_n 1, 1) := by decide +kernel
theorem dL_law_600 : decode cL_law 600 = .ok (.aload_n 0, 1) := by decide +kernel
theorem dL_law_601 : decode cL_law 601 = .ok (.iload_n 3, 1) := by decide +kernel
theorem dL_law_602 : decode cL_law 602 = .ok (.iconst 1, 1) := by decide +kernel
theorem dL_law_603 : decode cL_law 603 = .ok (.iadd, 1) := by decide +kernel
theorem dL_law_604 : decode cL_law 604 = .ok (.iaload, 1) := by decide +kernel
theorem dL_law_605 : decode cL_law 605 = .ok (.invokevirtual 88, 3) := by decide +kernel
theorem dL_law_608 : decode cL_law 608 = .ok (.aload_n 2, 1) := by decide +kernel
theorem dL_law_609 : decode cL_law 609 = .ok (.aload_n 0, 1) := by decide +kernel
theorem dL_law_610 : decode cL_law 610 = .ok (.iload_n 3, 1) := by decide +kernel
theorem dL_law_611 : decode cL_law 611 = .ok (.iconst 1, 1) := by decide +kernel
theorem dL_law_612 : decode cL_law 612 = .ok (.iadd, 1) := by decide +kernel
theorem dL_law_613 : decode cL_law 613 = .ok (.iaload, 1) := by decide +kernel
theorem dL_law_614 : decode cL_law 614 = .ok (.invokevirtual 91, 3) := by decide +kernel
theorem dL_law_617 : decode cL_law 617 = .ok (.if_icmp .eq 149, 3) := by decide +kernel
theorem dL_law_620 : decode cL_law 620 = .ok (.iconst 0, 1) := by decide +kernel
theorem dL_law_621 : decode cL_law 621 = .ok (.ireturn, 1) := by decide +kernel
theorem dL_law_622 : decode cL_law 622 = .ok (.aload_n 1, 1) := by decide +kernel
theorem dL_law_623 : decode cL_law 623 = .ok (.aload_n 0, 1) := by decide +kernel
theorem dL_law_624 : decode cL_law 624 = .ok (.iload_n 3, 1) := by decide +kernel
theorem dL_law_625 : decode cL_law 625 = .ok (.iconst 1, 1) := by decide +kernel
theorem dL_law_626 : decode cL_law 626 = .ok (.iadd, 1) := by decide +kernel
theorem dL_law_627 : decode cL_law 627 = .ok (.iaload, 1) := by decide +kernel
theorem dL_law_628 : decode cL_law 628 = .ok (.invokevirtual 92, 3) := by decide +kernel
theorem dL_law_631 : decode cL_law 631 = .ok (.aload_n 2, 1) := by decide +kernel
theorem dL_law_632 : decode cL_law 632 = .ok (.aload_n 0, 1) := by decide +kernel
theorem dL_law_633 : decode cL_law 633 = .ok (.iload_n 3, 1) := by decide +kernel
theorem dL_law_634 : decode cL_law 634 = .ok (.iconst 1, 1) := by decide +kernel
theorem dL_law_635 : decode cL_law 635 = .ok (.iadd, 1) := by decide +kernel
theorem dL_law_636 : decode cL_law 636 = .ok (.iaload, 1) := by decide +kernel
theorem dL_law_637 : decode cL_law 637 = .ok (.invokevirtual 95, 3) := by decide +kernel
theorem dL_law_640 : decode cL_law 640 = .ok (.if_icmp .eq 126, 3) := by decide +kernel
theorem dL_law_643 : decode cL_law 643 = .ok (.iconst 0, 1) := by decide +kernel
theorem dL_law_644 : decode cL_law 644 = .ok (.ireturn, 1) := by decide +kernel
theorem dL_law_645 : decode cL_law 645 = .ok (.aload_n 1, 1) := by decide +kernel
theorem dL_law_646 : decode cL_law 646 = .ok (.invokevirtual 96, 3) := by decide +kernel
theorem dL_law_649 : decode cL_law 649 = .ok (.aload_n 2, 1) := by decide +kernel
theorem dL_law_650 : decode cL_law 650 = .ok (.invokevirtual 99, 3) := by decide +kernel
theorem dL_law_653 : decode cL_law 653 = .ok (.if_icmp .eq 113, 3) := by decide +kernel
theorem dL_law_656 : decode cL_law 656 = .ok (.iconst 0, 1) := by decide +kernel
theorem dL_law_657 : decode cL_law 657 = .ok (.ireturn, 1) := by decide +kernel
theorem dL_law_658 : decode cL_law 658 = .ok (.aload_n 1, 1) := by decide +kernel
theorem dL_law_659 : decode cL_law 659 = .ok (.invokevirtual 100, 3) := by decide +kernel
theorem dL_law_662 : decode cL_law 662 = .ok (.aload_n 2, 1) := by decide +kernel
theorem dL_law_663 : decode cL_law 663 = .ok (.invokevirtual 103, 3) := by decide +kernel
theorem dL_law_666 : decode cL_law 666 = .ok (.if_icmp .eq 100, 3) := by decide +kernel
theorem dL_law_669 : decode cL_law 669 = .ok (.iconst 0, 1) := by decide +kernel
theorem dL_law_670 : decode cL_law 670 = .ok (.ireturn, 1) := by decide +kernel
theorem dL_law_671 : decode cL_law 671 = .ok (.aload_n 1, 1) := by decide +kernel
theorem dL_law_672 : decode cL_law 672 = .ok (.aload_n 0, 1) := by decide +kernel
theorem dL_law_673 : decode cL_law 673 = .ok (.iload_n 3, 1) := by decide +kernel
theorem dL_law_674 : decode cL_law 674 = .ok (.iconst 1, 1) := by decide +kernel
theorem dL_law_675 : decode cL_law 675 = .ok (.iadd, 1) := by decide +kernel
theorem dL_law_676 : decode cL_law 676 = .ok (.iaload, 1) := by decide +kernel
theorem dL_law_677 : decode cL_law 677 = .ok (.invokevirtual 104, 3) := by decide +kernel
theorem dL_law_680 : decode cL_law 680 = .ok (.aload_n 2, 1) := by decide +kernel
theorem dL_law_681 : decode cL_law 681 = .ok (.aload_n 0, 1) := by decide +kernel
theorem dL_law_682 : decode cL_law 682 = .ok (.iload_n 3, 1) := by decide +kernel
theorem dL_law_683 : decode cL_law 683 = .ok (.iconst 1, 1) := by decide +kernel
theorem dL_law_684 : decode cL_law 684 = .ok (.iadd, 1) := by decide +kernel
theorem dL_law_685 : decode cL_law 685 = .ok (.iaload, 1) := by decide +kernel
theorem dL_law_686 : decode cL_law 686 = .ok (.invokevirtual 107, 3) := by decide +kernel
theorem dL_law_689 : decode cL_law 689 = .ok (.if_icmp .eq 77, 3) := by decide +kernel
theorem dL_law_692 : decode cL_law 692 = .ok (.iconst 0, 1) := by decide +kernel
theorem dL_law_693 : decode cL_law 693 = .ok (.ireturn, 1) := by decide +kernel
theorem dL_law_694 : decode cL_law 694 = .ok (.aload_n 1, 1) := by decide +kernel
theorem dL_law_695 : decode cL_law 695 = .ok (.aload_n 0, 1) := by decide +kernel
theorem dL_law_696 : decode cL_law 696 = .ok (.iload_n 3, 1) := by decide +kernel
theorem dL_law_697 : decode cL_law 697 = .ok (.iconst 1, 1) := by decide +kernel
theorem dL_law_698 : decode cL_law 698 = .ok (.iadd, 1) := by decide +kernel
theorem dL_law_699 : decode cL_law 699 = .ok (.iaload, 1) := by decide +kernel
theorem dL_law_700 : decode cL_law 700 = .ok (.invokevirtual 108, 3) := by decide +kernel
theorem dL_law_703 : decode cL_law 703 = .ok (.aload_n 2, 1) := by decide +kernel
theorem dL_law_704 : decode cL_law 704 = .ok (.aload_n 0, 1) := by decide +kernel
theorem dL_law_705 : decode cL_law 705 = .ok (.iload_n 3, 1) := by decide +kernel
theorem dL_law_706 : decode cL_law 706 = .ok (.iconst 1, 1) := by decide +kernel
theorem dL_law_707 : decode cL_law 707 = .ok (.iadd, 1) := by decide +kernel
theorem dL_law_708 : decode cL_law 708 = .ok (.iaload, 1) := by decide +kernel
theorem dL_law_709 : decode cL_law 709 = .ok (.invokevirtual 111, 3) := by decide +kernel
theorem dL_law_712 : decode cL_law 712 = .ok (.if_icmp .eq 54, 3) := by decide +kernel
theorem dL_law_715 : decode cL_law 715 = .ok (.iconst 0, 1) := by decide +kernel
theorem dL_law_716 : decode cL_law 716 = .ok (.ireturn, 1) := by decide +kernel
theorem dL_law_717 : decode cL_law 717 = .ok (.aload_n 1, 1) := by decide +kernel
theorem dL_law_718 : decode cL_law 718 = .ok (.invokevirtual 112, 3) := by decide +kernel
theorem dL_law_721 : decode cL_law 721 = .ok (.aload_n 2, 1) := by decide +kernel
theorem dL_law_722 : decode cL_law 722 = .ok (.invokevirtual 115, 3) := by decide +kernel
theorem dL_law_725 : decode cL_law 725 = .ok (.if_icmp .eq 41, 3) := by decide +kernel
theorem dL_law_728 : decode cL_law 728 = .ok (.iconst 0, 1) := by decide +kernel
theorem dL_law_729 : decode cL_law 729 = .ok (.ireturn, 1) := by decide +kernel
theorem dL_law_730 : decode cL_law 730 = .ok (.aload_n 1, 1) := by decide +kernel
theorem dL_law_731 : decode cL_law 731 = .ok (.invokevirtual 116, 3) := by decide +kernel
theorem dL_law_734 : decode cL_law 734 = .ok (.aload_n 2, 1) := by decide +kernel
theorem dL_law_735 : decode cL_law 735 = .ok (.invokevirtual 119, 3) := by decide +kernel
theorem dL_law_738 : decode cL_law 738 = .ok (.if_icmp .eq 28, 3) := by decide +kernel
theorem dL_law_741 : decode cL_law 741 = .ok (.iconst 0, 1) := by decide +kernel
theorem dL_law_742 : decode cL_law 742 = .ok (.ireturn, 1) := by decide +kernel
theorem dL_law_743 : decode cL_law 743 = .ok (.aload_n 1, 1) := by decide +kernel
theorem dL_law_744 : decode cL_law 744 = .ok (.aload_n 0, 1) := by decide +kernel
theorem dL_law_745 : decode cL_law 745 = .ok (.iload_n 3, 1) := by decide +kernel
theorem dL_law_746 : decode cL_law 746 = .ok (.iconst 1, 1) := by decide +kernel
theorem dL_law_747 : decode cL_law 747 = .ok (.iadd, 1) := by decide +kernel
theorem dL_law_748 : decode cL_law 748 = .ok (.iaload, 1) := by decide +kernel
theorem dL_law_749 : decode cL_law 749 = .ok (.invokevirtual 120, 3) := by decide +kernel
theorem dL_law_752 : decode cL_law 752 = .ok (.aload_n 2, 1) := by decide +kernel
theorem dL_law_753 : decode cL_law 753 = .ok (.aload_n 0, 1) := by decide +kernel
theorem dL_law_754 : decode cL_law 754 = .ok (.iload_n 3, 1) := by decide +kernel
theorem dL_law_755 : decode cL_law 755 = .ok (.iconst 1, 1) := by decide +kernel
theorem dL_law_756 : decode cL_law 756 = .ok (.iadd, 1) := by decide +kernel
theorem dL_law_757 : decode cL_law 757 = .ok (.iaload, 1) := by decide +kernel
theorem dL_law_758 : decode cL_law 758 = .ok (.invokevirtual 123, 3) := by decide +kernel
theorem dL_law_761 : decode cL_law 761 = .ok (.if_icmp .eq 5, 3) := by decide +kernel
theorem dL_law_764 : decode cL_law 764 = .ok (.iconst 0, 1) := by decide +kernel
theorem dL_law_765 : decode cL_law 765 = .ok (.ireturn, 1) := by decide +kernel
theorem dL_law_766 : decode cL_law 766 = .ok (.iinc 3 4, 3) := by decide +kernel
theorem dL_law_769 : decode cL_law 769 = .ok (.goto (-751), 3) := by decide +kernel
theorem dL_law_772 : decode cL_law 772 = .ok (.iconst 1, 1) := by decide +kernel
theorem dL_law_773 : decode cL_law 773 = .ok (.ireturn, 1) := by decide +kernel
end
section
/-! THE ABSTRACT JUDGEMENT X: a method's walk over a world of fixed cells (no cell is made), its numbers as whole numbers (Int).
A cell is known by its place in the list of shapes; a reference is a place; what cells hold is a function place -> index -> number. -/
abbrev xA : Type := Int ⊕ (Nat ⊕ Int64)
abbrev xM : Type := Nat → Nat → Int
abbrev xS : Type := (Nat × Bool) ⊕ (Nat × List (Option Nat))
abbrev xE : Type := List (Nat × (Nat → Int)) × List (String × String × String × Nat)
def x_I (a : Int) : Int32 := Int32.ofInt a
def x_in (a : Int) : Prop := -2147483648 ≤ a ∧ a < 2147483648
def x_v (ad : Nat → Nat) : xA → Value
  | .inl a => .int (x_I a)
  | .inr (.inl r) => .ref (ad r)
  | .inr (.inr l) => .long l
def x_f (ad : Nat → Nat) (μ : Nat → Int) (j : Nat) : Option Nat → Value
  | some r => .ref (ad r)
  | none => .int (x_I (μ j))
def x_e (cI cZ : ClassId) (ad : Nat → Nat) (μ : Nat → Int) : xS → va_E
  | .inl (n, z) => .inl ((if z = true then cZ else cI), n, .inl (fun j => x_I (μ j)))
  | .inr (ci, fs) => .inr (ci, fs.mapIdx (x_f ad μ))
def x_w (cI cZ : ClassId) (ad : Nat → Nat) (sh : List xS) (μ : xM) : va_W := sh.mapIdx (fun k s => (ad k, x_e cI cZ ad (μ k) s))
def x_st (μ : xM) (k j : Nat) (v : Int) : xM := fun a b => if a = k then (if b = j then v else μ a b) else μ a b
def x_tbl : List Cond := lw_tbl.filter goodWord
theorem x_mem {w : Cond} (h : w ∈ lw_tbl) (hg : goodWord w = true) : w ∈ x_tbl := List.mem_filter.mpr ⟨h, hg⟩
theorem x_good : GoodIn x_tbl x_tbl := fun _ h => ⟨h, good_of_word (List.mem_filter.mp h).2⟩
theorem x_lay {C : String} {T : u_T} {N : Nat} (h : ∀ w ∈ u_ws C T N, w ∈ lw_tbl) : ∀ w ∈ u_ws C T N, w ∈ x_tbl := by
  intro w hw
  refine x_mem (h w hw) ?_
  obtain ⟨k, -, rfl⟩ := List.mem_map.mp hw
  unfold u_lay
  split <;> rfl
/-! numbers -/
theorem x_bm {a : Int} (h : x_in a) : a.bmod (2 ^ 32) = a := by
  rw [Int.bmod_eq_of_le (by have := h.1; omega) (by have := h.2; omega)]
theorem x_toInt {a : Int} (h : x_in a) : (x_I a).toInt = a := by
  unfold x_I
  rw [Int32.toInt_ofInt]
  exact x_bm h
theorem x_ofInt (z : Int32) : x_I z.toInt = z := Int32.ofInt_toInt z
theorem x_inI (z : Int32) : x_in z.toInt := by
  have h1 := Int32.le_toInt z
  have h2 := Int32.toInt_lt z
  constructor <;> omega
theorem x_add (a b : Int) : x_I a + x_I b = x_I (a + b) := by
  apply Int32.toInt_inj.mp
  simp [x_I, Int32.toInt_add, Int32.toInt_ofInt]
theorem x_sub (a b : Int) : x_I a - x_I b = x_I (a - b) := by
  apply Int32.toInt_inj.mp
  simp [x_I, Int32.toInt_sub, Int32.toInt_ofInt]
theorem x_mul (a b : Int) : x_I a * x_I b = x_I (a * b) := by
  apply Int32.toInt_inj.mp
  simp [x_I, Int32.toInt_mul, Int32.toInt_ofInt]
theorem x_neg (a : Int) : -x_I a = x_I (-a) := by
  apply Int32.toInt_inj.mp
  simp [x_I, Int32.toInt_neg, Int32.toInt_ofInt]
theorem x_lt {a b : Int} (ha : x_in a) (hb : x_in b) : x_I a < x_I b ↔ a < b := by rw [Int32.lt_iff_toInt_lt, x_toInt ha, x_toInt hb]
theorem x_le {a b : Int} (ha : x_in a) (hb : x_in b) : x_I a ≤ x_I b ↔ a ≤ b := by rw [Int32.le_iff_toInt_le, x_toInt ha, x_toInt hb]
theorem x_eq {a b : Int} (ha : x_in a) (hb : x_in b) : x_I a = x_I b ↔ a = b := by
  constructor
  · intro h
    have h2 := congrArg Int32.toInt h
    rwa [x_toInt ha, x_toInt hb] at h2
  · intro h; rw [h]
theorem x_in0 : x_in 0 := ⟨by decide, by decide⟩
theorem x_zero : x_I 0 = 0 := by decide
theorem x_div {a b : Int} (ha : x_in a) (hb : x_in b) (hq : x_in (a.tdiv b)) : x_I a / x_I b = x_I (a.tdiv b) := by
  apply Int32.toInt_inj.mp
  rw [Int32.toInt_div, x_toInt ha, x_toInt hb, x_toInt hq]
  exact x_bm hq
theorem x_ne0 {b : Int} (hb : x_in b) (h : b ≠ 0) : ¬ x_I b = 0 := by
  rw [← x_zero, x_eq hb x_in0]
  exact h
theorem x_cl {a : Int} (h0 : 0 ≤ a) (h : x_in a) : (x_I a).toNatClampNeg = a.toNat := by
  have e := x_toInt h
  simp only [Int32.toNatClampNeg, e]
theorem x_vpin {a : Int} {n : Nat} (h0 : 0 ≤ a) (h1 : a < n) (hn : n < 2147483648) : vp_in (x_I a) n := by
  have hi : x_in a := ⟨by omega, by omega⟩
  rintro (h | h)
  · rw [← x_zero, x_lt hi x_in0] at h
    omega
  · rw [x_cl h0 hi] at h
    omega
/-! worlds -/
theorem x_wk {cI cZ : ClassId} {ad : Nat → Nat} {sh : List xS} {μ : xM} {k : Nat} {s : xS} (h : sh[k]? = some s) : (x_w cI cZ ad sh μ)[k]? = some (ad k, x_e cI cZ ad (μ k) s) := by
  simp [x_w, List.getElem?_mapIdx, h]
theorem x_wlen {cI cZ : ClassId} {ad : Nat → Nat} {sh : List xS} {μ : xM} : (x_w cI cZ ad sh μ).length = sh.length := by simp [x_w]
theorem x_wk' {cI cZ : ClassId} {ad : Nat → Nat} {sh : List xS} {μ : xM} {k : Nat} {q : Nat × va_E} (h : (x_w cI cZ ad sh μ)[k]? = some q) : ∃ s, sh[k]? = some s ∧ q = (ad k, x_e cI cZ ad (μ k) s) := by
  simp only [x_w, List.getElem?_mapIdx] at h
  cases hs : sh[k]? with
  | none => rw [hs] at h; cases h
  | some s => rw [hs] at h; exact ⟨s, rfl, (Option.some.inj h).symm⟩
theorem x_wset {cI cZ : ClassId} {ad : Nat → Nat} {sh : List xS} {μ μ' : xM} {k : Nat} {s : xS} {e : va_E} (h : sh[k]? = some s) (hμ : ∀ a, a ≠ k → μ' a = μ a) (he : x_e cI cZ ad (μ' k) s = e) : (x_w cI cZ ad sh μ).set k (ad k, e) = x_w cI cZ ad sh μ' := by
  have hl : k < sh.length := (List.getElem?_eq_some_iff.mp h).1
  apply List.ext_getElem?
  intro i
  rw [List.getElem?_set]
  by_cases hik : k = i
  · subst hik
    rw [if_pos rfl, x_wk h, if_pos (by rw [x_wlen]; exact hl), he]
  · rw [if_neg hik]
    simp only [x_w, List.getElem?_mapIdx]
    rw [hμ i (fun e => hik e.symm)]
theorem x_wD {A : Nat → Prop} {cI cZ : ClassId} {ad : Nat → Nat} {sh : List xS} {μ μ' : xM} (h : va_D A (x_w cI cZ ad sh μ)) : va_D A (x_w cI cZ ad sh μ') := by
  refine ⟨fun i j p q hp hq hpq => ?_, fun k q hk => ?_⟩
  · obtain ⟨s1, h1, rfl⟩ := x_wk' hp
    obtain ⟨s2, h2, rfl⟩ := x_wk' hq
    exact h.1 i j _ _ (x_wk h1) (x_wk h2) hpq
  · obtain ⟨s1, h1, rfl⟩ := x_wk' hk
    exact h.2 k (ad k, x_e cI cZ ad (μ k) s1) (x_wk h1)
/-! the locals -/
def x_L (ad : Nat → Nat) (ls : Array Slot) (nL : Nat) (lv : List (Option xA)) : Prop := lv_has ls nL [] ∧ ∀ (i : Nat) (v : xA), lv[i]? = some (some v) → ls[i]? = some (Slot.val (x_v ad v))
def x_ll (ad : Nat → Nat) (lv : List (Option xA)) : List (Nat × Value) := (List.range lv.length).filterMap (fun i => match lv[i]? with
  | some (some v) => some (i, x_v ad v)
  | _ => none)
theorem x_ll_mem {ad : Nat → Nat} {lv : List (Option xA)} {q : Nat × Value} (h : q ∈ x_ll ad lv) : ∃ v, lv[q.1]? = some (some v) ∧ q.2 = x_v ad v := by
  obtain ⟨i, -, hi⟩ := List.mem_filterMap.mp h
  split at hi
  next v hv => cases hi; exact ⟨v, hv, rfl⟩
  next => cases hi
theorem x_ll_in {ad : Nat → Nat} {lv : List (Option xA)} {i : Nat} {v : xA} (h : lv[i]? = some (some v)) : (i, x_v ad v) ∈ x_ll ad lv := by
  refine List.mem_filterMap.mpr ⟨i, List.mem_range.mpr (List.getElem?_eq_some_iff.mp h).1, ?_⟩
  rw [h]
theorem x_Lhas {ad : Nat → Nat} {ls : Array Slot} {nL : Nat} {lv : List (Option xA)} (h : x_L ad ls nL lv) : lv_has ls nL (x_ll ad lv) := by
  refine ⟨h.1.1, h.1.2.1, fun q hq => ?_⟩
  obtain ⟨v, h1, h2⟩ := x_ll_mem hq
  rw [h2]
  exact h.2 _ _ h1
def x_nl : Option xA → Bool
  | some (.inr (.inr _)) => false
  | _ => true
def x_np (lv : List (Option xA)) : Nat → Bool
  | 0 => true
  | j + 1 => match lv[j]? with
    | some o => x_nl o
    | none => true
theorem x_Lof {ad : Nat → Nat} {ls' : Array Slot} {nL i : Nat} {lv : List (Option xA)} {v : xA} (h : lv_has ls' nL ((i, x_v ad v) :: (x_ll ad lv).filter (fun q => !(q.1 == i) && !(q.1 + 1 == i && q.2.category == 2)))) (hp : x_np lv i = true) : x_L ad ls' nL (lv.set i (some v)) := by
  refine ⟨⟨h.1, h.2.1, fun q hq => by cases hq⟩, ?_⟩
  intro j w hj
  rw [List.getElem?_set] at hj
  by_cases hij : i = j
  · subst hij
    rw [if_pos rfl] at hj
    split at hj
    · cases Option.some.inj (Option.some.inj hj)
      exact h.2.2 _ List.mem_cons_self
    · cases hj
  · rw [if_neg hij] at hj
    refine h.2.2 (j, x_v ad w) (List.mem_cons_of_mem _ (List.mem_filter.mpr ⟨x_ll_in hj, ?_⟩))
    have h1 : (j == i) = false := by simpa using fun e => hij e.symm
    have h2 : (j + 1 == i && (x_v ad w).category == 2) = false := by
      by_cases hji : j + 1 = i
      · subst hji
        have h3 : ∀ l, w ≠ .inr (.inr l) := by
          intro l hw
          subst hw
          simp [x_np, x_nl, hj] at hp
        rcases w with a | r | l
        · simp [x_v, Value.category]
        · simp [x_v, Value.category]
        · exact absurd rfl (h3 l)
      · simp [hji]
    show (!(j == i) && !(j + 1 == i && (x_v ad w).category == 2)) = true
    rw [h1, h2]
    rfl
def x_en : List xA → List (Option xA)
  | [] => []
  | .inr (.inr l) :: t => some (.inr (.inr l)) :: none :: x_en t
  | .inl a :: t => some (.inl a) :: x_en t
  | .inr (.inl r) :: t => some (.inr (.inl r)) :: x_en t
theorem x_en_in (ad : Nat → Nat) : ∀ (as : List xA) (k i : Nat) (v : xA), (x_en as)[i]? = some (some v) → (k + i, x_v ad v) ∈ lv_args k (as.map (x_v ad))
  | [], _, _, _, h => by simp [x_en] at h
  | .inl a :: t, k, 0, v, h => by
    simp only [x_en, List.getElem?_cons_zero, Option.some.injEq] at h
    subst h
    exact List.mem_cons_self
  | .inl a :: t, k, i + 1, v, h => by
    simp only [x_en, List.getElem?_cons_succ] at h
    have := x_en_in ad t (k + 1) i v h
    refine List.mem_cons_of_mem _ ?_
    rw [show k + (i + 1) = k + 1 + i by omega]
    exact this
  | .inr (.inl a) :: t, k, 0, v, h => by
    simp only [x_en, List.getElem?_cons_zero, Option.some.injEq] at h
    subst h
    exact List.mem_cons_self
  | .inr (.inl a) :: t, k, i + 1, v, h => by
    simp only [x_en, List.getElem?_cons_succ] at h
    have := x_en_in ad t (k + 1) i v h
    refine List.mem_cons_of_mem _ ?_
    rw [show k + (i + 1) = k + 1 + i by omega]
    exact this
  | .inr (.inr a) :: t, k, 0, v, h => by
    simp only [x_en, List.getElem?_cons_zero, Option.some.injEq] at h
    subst h
    exact List.mem_cons_self
  | .inr (.inr a) :: t, k, 1, v, h => by
    simp [x_en] at h
  | .inr (.inr a) :: t, k, i + 2, v, h => by
    simp only [x_en, List.getElem?_cons_succ] at h
    have := x_en_in ad t (k + 2) i v h
    refine List.mem_cons_of_mem _ ?_
    rw [show k + (i + 2) = k + 2 + i by omega]
    exact this
theorem x_lgc (v : Value) (vs : List Value) : lg_sl (v :: vs) = (if v.category = 2 then [.val v, .second] else [.val v]) ++ lg_sl vs := by
  simp [lg_sl]
theorem x_en_len (ad : Nat → Nat) : ∀ (as : List xA), (lg_sl (as.map (x_v ad))).length = (x_en as).length
  | [] => rfl
  | .inl a :: t => by
    have := x_en_len ad t
    rw [List.map_cons, x_lgc, x_en, List.length_append, this]
    simp [x_v, Value.category]
    try omega
  | .inr (.inl a) :: t => by
    have := x_en_len ad t
    rw [List.map_cons, x_lgc, x_en, List.length_append, this]
    simp [x_v, Value.category]
    try omega
  | .inr (.inr a) :: t => by
    have := x_en_len ad t
    rw [List.map_cons, x_lgc, x_en, List.length_append, this]
    simp [x_v, Value.category]
    try omega
theorem x_Len (ad : Nat → Nat) (as : List xA) {n : Nat} {ls : Array Slot} (h : lv_has ls n (lv_args 0 (as.map (x_v ad)))) (k : Nat) : x_L ad ls n (x_en as ++ List.replicate k none) := by
  refine ⟨⟨h.1, h.2.1, fun q hq => by cases hq⟩, fun i v hi => ?_⟩
  by_cases hl : i < (x_en as).length
  · rw [List.getElem?_append_left hl] at hi
    have := h.2.2 _ (x_en_in ad as 0 i v hi)
    simpa using this
  · rw [List.getElem?_append_right (by omega)] at hi
    have := List.eq_of_mem_replicate (List.mem_of_getElem? hi)
    cases this
/-! what nobody writes: the script, static arrays, static fields -/
def x_ro (ad : Nat → Nat) (A : Nat → Prop) (U : State) (i n : Nat) (f : Nat → Int) : Prop := ∃ cell : Cell, U.heap[ad i]? = some cell ∧ U.isArrayOf cell .int ∧ cell.vm ≠ .unknown ∧ (n ≤ cell.slots.size ∧ cell.slots.size.toInt32 = Int32.ofNat n) ∧ (∀ j, j < n → cell.slots[j]? = some (.int (x_I (f j)))) ∧ ¬ A (ad i)
def x_Ev (E : xE) (ad : Nat → Nat) (A : Nat → Prop) (U : State) : Prop := (∀ i n f, E.1[i]? = some (n, f) → x_ro ad A U (1000 + i) n f) ∧ ∀ (i : Nat) q, E.2[i]? = some q → va_Z q.1 q.2.1 q.2.2.1 (.ref (ad q.2.2.2)) A U U.heap ∧ 1000 ≤ q.2.2.2
theorem x_Ev_move {E : xE} {ad ad' : Nat → Nat} {A A' : Nat → Prop} {s U : State} (h : x_Ev E ad A s) (hvm : s.vm.Alike U.vm) (had : ∀ i, 1000 ≤ i → ad' i = ad i) (hq : ∀ a : Nat, a < s.heap.size → ¬ A a → U.heap[a]? = s.heap[a]?) (hA : ∀ a, a < s.heap.size → ¬ A a → ¬ A' a) : x_Ev E ad' A' U := by
  refine ⟨fun i n f hi => ?_, fun i q hi => ?_⟩
  · obtain ⟨cell, h1, h2, h3, h4, h5, h6⟩ := h.1 i n f hi
    have hlt := (Array.getElem?_eq_some_iff.mp h1).1
    refine ⟨cell, ?_, State.isArrayOf_alike hvm h2, h3, h4, h5, ?_⟩
    · rw [had _ (by omega), hq _ hlt h6]; exact h1
    · rw [had _ (by omega)]; exact hA _ hlt h6
  · obtain ⟨h1, h2⟩ := h.2 i q hi
    rw [had _ h2]
    refine ⟨?_, h2⟩
    obtain ⟨cf, kf, fi, f, a, cell, g1, g2, g3, g4, g5, g6, g7, g8⟩ := va_Z.moved hvm h1
    have hlt := (Array.getElem?_eq_some_iff.mp g5).1
    exact ⟨cf, kf, fi, f, a, cell, g1, g2, g3, g4, by rw [hq a hlt g8]; exact g5, g6, g7, hA a hlt g8⟩
theorem x_Ev_nil {ad : Nat → Nat} {A : Nat → Prop} {U : State} : x_Ev ([], []) ad A U := ⟨fun i n f h => by simp at h, fun i q h => by simp at h⟩
/-! the judgement -/
def x_C (d nL : Nat) (y : MethodName) (cc : ByteArray) (p : Program) (R : Room) (s : State) (m : MethodId) (args : Array Value) (c : Code) (D : va_G) (cI cZ : ClassId) (cells slots : Nat) : Prop :=
  p.tables.exec = Jvm.exec ∧ c.code = cc ∧ c.maxLocals = nL ∧ s.vm.findClass y.cls = some m.cls ∧ (∀ w ∈ x_tbl, w.before args s = true) ∧ va_K D vwCl [(cI, .int), (cZ, .boolean)] s ∧ (d ≤ R.frames ∧ 64 * d ≤ R.locals) ∧ (cells ≤ R.cells ∧ slots ≤ R.slots)
def x_ret (cc : ByteArray) (ret : Option FieldType) (pc : Nat) : Option xA → Prop
  | none => decode cc pc = .ok (.return_, 1) ∧ ret = none
  | some v => decode cc pc = .ok (.ireturn, 1) ∧ ∃ a ty, v = .inl a ∧ ret = some ty ∧ narrow ty (.int (x_I a)) = .int (x_I a)
def X (E : xE) (sh : List xS) (d : Nat) (y : MethodName) (cc : ByteArray) (nL : Nat) (ret : Option FieldType) (pc : Nat) (lv : List (Option xA)) (st : List xA) (μ : xM) (Q : Option xA → xM → Prop) : Prop :=
  ∀ (p : Program) (l : Launch) (e : Env) (R : Room) (s : State) (m : MethodId) (args : Array Value) (below : List Frame) (meth : Method) (c : Code) (D : va_G) (cI cZ : ClassId) (ad : Nat → Nat) (A : Nat → Prop) (H : Heap) (locs : List Loc) (cells slots : Nat) (ls : Array Slot) (Z : State → Prop),
    x_C d nL y cc p R s m args c D cI cZ cells slots → va_P D vwCl (x_w cI cZ ad sh μ) H → va_D A (x_w cI cZ ad sh μ) → va_S A s.heap H locs → (∀ q, s.heap.size ≤ q → A q) → x_Ev E ad A s → x_L ad ls nL lv →
    (∀ (v : Option xA) (μ' : xM) (H' : Heap) (locs' : List Loc) (ls' : Array Slot) (pc' : Nat), Q v μ' → va_P D vwCl (x_w cI cZ ad sh μ') H' → va_D A (x_w cI cZ ad sh μ') → va_S A s.heap H' locs' → x_ret cc ret pc' v → W p l e R s m args below meth c H' locs' cells slots Z (F0 m pc' ls' (v.map (x_v ad)).toList)) →
    W p l e R s m args below meth c H locs cells slots Z (F0 m pc ls (st.map (x_v ad)))
theorem X.mono {E : xE} {sh : List xS} {d : Nat} {y : MethodName} {cc : ByteArray} {nL : Nat} {ret : Option FieldType} {pc : Nat} {lv : List (Option xA)} {st : List xA} {μ : xM} {Q Q' : Option xA → xM → Prop} (h : X E sh d y cc nL ret pc lv st μ Q) (hq : ∀ v μ', Q v μ' → Q' v μ') : X E sh d y cc nL ret pc lv st μ Q' := by
  intro p l e R s m args below meth c D cI cZ ad A H locs cells slots ls Z hC hP hD hS hA hE hl hk
  exact h p l e R s m args below meth c D cI cZ ad A H locs cells slots ls Z hC hP hD hS hA hE hl (fun v μ' H' locs' ls' pc' q => hk v μ' H' locs' ls' pc' (hq v μ' q))
theorem X.deep {E : xE} {sh : List xS} {d d' : Nat} {y : MethodName} {cc : ByteArray} {nL : Nat} {ret : Option FieldType} {pc : Nat} {lv : List (Option xA)} {st : List xA} {μ : xM} {Q : Option xA → xM → Prop} (h : X E sh d y cc nL ret pc lv st μ Q) (hd : d ≤ d') : X E sh d' y cc nL ret pc lv st μ Q := by
  intro p l e R s m args below meth c D cI cZ ad A H locs cells slots ls Z hC
  obtain ⟨h1, h2, h3, h4, h5, h6, ⟨h7, h8⟩, h9⟩ := hC
  exact h p l e R s m args below meth c D cI cZ ad A H locs cells slots ls Z ⟨h1, h2, h3, h4, h5, h6, ⟨by omega, by omega⟩, h9⟩
def x_fk (own : String) (cp ci k : Nat) : Prop := ∃ (C : String) (T : u_T) (N : Nat) (ty0 : Nat → FieldType), vwCl[ci]? = some (C, T, N) ∧ k < N ∧ Cond.fieldLink own cp C (T k).2.1 (T k).2.2.1 ∈ lw_tbl ∧ (T k).1 = C ∧ (∀ w ∈ u_ws C T N, w ∈ lw_tbl) ∧ (∀ k, k < N → parseFieldDescriptor (T k).2.2.1 = some (ty0 k)) ∧ (∀ a, a < N → ∀ b, b < N → a ≠ b → (T a).2.1 ≠ (T b).2.1)
def x_pk (own : String) (cp ci k : Nat) (ty : FieldType) : Prop := ∃ (C : String) (T : u_T) (N : Nat) (ty0 : Nat → FieldType), (vwCl[ci]? = some (C, T, N) ∧ k < N ∧ Cond.fieldLink own cp C (T k).2.1 (T k).2.2.1 ∈ lw_tbl ∧ (T k).1 = C ∧ (∀ w ∈ u_ws C T N, w ∈ lw_tbl) ∧ (∀ k, k < N → parseFieldDescriptor (T k).2.2.1 = some (ty0 k)) ∧ (∀ a, a < N → ∀ b, b < N → a ≠ b → (T a).2.1 ≠ (T b).2.1)) ∧ (T k).2.2.2 = false ∧ parseFieldDescriptor (T k).2.2.1 = some ty
section XR
variable {E : xE} {sh : List xS} {d : Nat} {y : MethodName} {cc : ByteArray} {nL : Nat} {ret : Option FieldType} {pc : Nat} {lv : List (Option xA)} {st : List xA} {μ : xM} {Q : Option xA → xM → Prop}
theorem x_iconst {n : Int} (hdg : decode cc pc = .ok (.iconst n, 1)) (kk : X E sh d y cc nL ret (pc + 1) lv (.inl n :: st) μ Q) : X E sh d y cc nL ret pc lv st μ Q := by
  intro p l e R s m args below meth c D cI cZ ad A H locs cells slots ls Z hC hP hD hS hA hE hl hk
  exact lv_iconst hC.1 hC.2.1 hdg rfl (kk p l e R s m args below meth c D cI cZ ad A H locs cells slots ls Z hC hP hD hS hA hE hl hk)
theorem x_bipush {n : Int} (hdg : decode cc pc = .ok (.bipush n, 2)) (hn : (Int8.ofInt n).toInt32 = Int32.ofInt n) (kk : X E sh d y cc nL ret (pc + 2) lv (.inl n :: st) μ Q) : X E sh d y cc nL ret pc lv st μ Q := by
  intro p l e R s m args below meth c D cI cZ ad A H locs cells slots ls Z hC hP hD hS hA hE hl hk
  exact lv_bipush hC.1 hC.2.1 hdg hn (kk p l e R s m args below meth c D cI cZ ad A H locs cells slots ls Z hC hP hD hS hA hE hl hk)
theorem x_sipush {n : Int} (hdg : decode cc pc = .ok (.sipush n, 3)) (hn : (Int16.ofInt n).toInt32 = Int32.ofInt n) (kk : X E sh d y cc nL ret (pc + 3) lv (.inl n :: st) μ Q) : X E sh d y cc nL ret pc lv st μ Q := by
  intro p l e R s m args below meth c D cI cZ ad A H locs cells slots ls Z hC hP hD hS hA hE hl hk
  exact lv_sipush hC.1 hC.2.1 hdg hn (kk p l e R s m args below meth c D cI cZ ad A H locs cells slots ls Z hC hP hD hS hA hE hl hk)
theorem x_ldc {i : Nat} {w : Int32} {n : Int} (hdg : decode cc pc = .ok (.ldc i, 2)) (hw : Cond.constant y.cls i w ∈ lw_tbl) (hn : w = Int32.ofInt n) (kk : X E sh d y cc nL ret (pc + 2) lv (.inl n :: st) μ Q) : X E sh d y cc nL ret pc lv st μ Q := by
  intro p l e R s m args below meth c D cI cZ ad A H locs cells slots ls Z hC hP hD hS hA hE hl hk
  subst hn
  exact lv_ldc hC.1 hC.2.1 hC.2.2.2.1 (hC.2.2.2.2.1 _ (x_mem hw rfl)) hdg (kk p l e R s m args below meth c D cI cZ ad A H locs cells slots ls Z hC hP hD hS hA hE hl hk)
theorem x_ldc2 {i : Nat} {w : Int64} (hdg : decode cc pc = .ok (.ldc2_w i, 3)) (hw : Cond.constantLong y.cls i w ∈ lw_tbl) (kk : X E sh d y cc nL ret (pc + 3) lv (.inr (.inr w) :: st) μ Q) : X E sh d y cc nL ret pc lv st μ Q := by
  intro p l e R s m args below meth c D cI cZ ad A H locs cells slots ls Z hC hP hD hS hA hE hl hk
  exact lv_ldc2 hC.1 hC.2.1 hC.2.2.2.1 (hC.2.2.2.2.1 _ (x_mem hw rfl)) hdg (kk p l e R s m args below meth c D cI cZ ad A H locs cells slots ls Z hC hP hD hS hA hE hl hk)
theorem x_iload_n {k : Fin 4} {i : Nat} {a : Int} (hdg : decode cc pc = .ok (.iload_n k, 1)) (hi : (k : Nat) = i) (hv : lv[i]? = some (some (.inl a))) (kk : X E sh d y cc nL ret (pc + 1) lv (.inl a :: st) μ Q) : X E sh d y cc nL ret pc lv st μ Q := by
  intro p l e R s m args below meth c D cI cZ ad A H locs cells slots ls Z hC hP hD hS hA hE hl hk
  exact lv_iload_n hC.1 hC.2.1 hdg hi (hl.2 _ _ hv) (kk p l e R s m args below meth c D cI cZ ad A H locs cells slots ls Z hC hP hD hS hA hE hl hk)
theorem x_iload {i : Nat} {a : Int} (hdg : decode cc pc = .ok (.iload i, 2)) (hv : lv[i]? = some (some (.inl a))) (kk : X E sh d y cc nL ret (pc + 2) lv (.inl a :: st) μ Q) : X E sh d y cc nL ret pc lv st μ Q := by
  intro p l e R s m args below meth c D cI cZ ad A H locs cells slots ls Z hC hP hD hS hA hE hl hk
  exact lv_iload hC.1 hC.2.1 hdg (hl.2 _ _ hv) (kk p l e R s m args below meth c D cI cZ ad A H locs cells slots ls Z hC hP hD hS hA hE hl hk)
theorem x_aload_n {k : Fin 4} {i : Nat} {a : Nat} (hdg : decode cc pc = .ok (.aload_n k, 1)) (hi : (k : Nat) = i) (hv : lv[i]? = some (some (.inr (.inl a)))) (kk : X E sh d y cc nL ret (pc + 1) lv (.inr (.inl a) :: st) μ Q) : X E sh d y cc nL ret pc lv st μ Q := by
  intro p l e R s m args below meth c D cI cZ ad A H locs cells slots ls Z hC hP hD hS hA hE hl hk
  exact lv_aload_n hC.1 hC.2.1 hdg hi (hl.2 _ _ hv) (kk p l e R s m args below meth c D cI cZ ad A H locs cells slots ls Z hC hP hD hS hA hE hl hk)
theorem x_aload {i : Nat} {a : Nat} (hdg : decode cc pc = .ok (.aload i, 2)) (hv : lv[i]? = some (some (.inr (.inl a)))) (kk : X E sh d y cc nL ret (pc + 2) lv (.inr (.inl a) :: st) μ Q) : X E sh d y cc nL ret pc lv st μ Q := by
  intro p l e R s m args below meth c D cI cZ ad A H locs cells slots ls Z hC hP hD hS hA hE hl hk
  exact lv_aload hC.1 hC.2.1 hdg (hl.2 _ _ hv) (kk p l e R s m args below meth c D cI cZ ad A H locs cells slots ls Z hC hP hD hS hA hE hl hk)
theorem x_lload_n {k : Fin 4} {i : Nat} {a : Int64} (hdg : decode cc pc = .ok (.lload_n k, 1)) (hi : (k : Nat) = i) (hv : lv[i]? = some (some (.inr (.inr a)))) (kk : X E sh d y cc nL ret (pc + 1) lv (.inr (.inr a) :: st) μ Q) : X E sh d y cc nL ret pc lv st μ Q := by
  intro p l e R s m args below meth c D cI cZ ad A H locs cells slots ls Z hC hP hD hS hA hE hl hk
  exact lv_lload_n hC.1 hC.2.1 hdg hi (hl.2 _ _ hv) (kk p l e R s m args below meth c D cI cZ ad A H locs cells slots ls Z hC hP hD hS hA hE hl hk)
theorem x_istore_n {k : Fin 4} {i : Nat} {a : Int} (hdg : decode cc pc = .ok (.istore_n k, 1)) (hi : (k : Nat) = i) (hn : i < nL) (hp : x_np lv i = true) (kk : X E sh d y cc nL ret (pc + 1) (lv.set i (some (.inl a))) st μ Q) : X E sh d y cc nL ret pc lv (.inl a :: st) μ Q := by
  intro p l e R s m args below meth c D cI cZ ad A H locs cells slots ls Z hC hP hD hS hA hE hl hk
  exact lv_istore_n hC.1 hC.2.1 hdg hi (x_Lhas hl) hn rfl (fun ls1 hl1 => kk p l e R s m args below meth c D cI cZ ad A H locs cells slots ls1 Z hC hP hD hS hA hE (x_Lof hl1 hp) hk)
theorem x_istore {i : Nat} {a : Int} (hdg : decode cc pc = .ok (.istore i, 2)) (hn : i < nL) (hp : x_np lv i = true) (kk : X E sh d y cc nL ret (pc + 2) (lv.set i (some (.inl a))) st μ Q) : X E sh d y cc nL ret pc lv (.inl a :: st) μ Q := by
  intro p l e R s m args below meth c D cI cZ ad A H locs cells slots ls Z hC hP hD hS hA hE hl hk
  exact lv_istore hC.1 hC.2.1 hdg (x_Lhas hl) hn rfl (fun ls1 hl1 => kk p l e R s m args below meth c D cI cZ ad A H locs cells slots ls1 Z hC hP hD hS hA hE (x_Lof hl1 hp) hk)
theorem x_astore_n {k : Fin 4} {i : Nat} {a : Nat} (hdg : decode cc pc = .ok (.astore_n k, 1)) (hi : (k : Nat) = i) (hn : i < nL) (hp : x_np lv i = true) (kk : X E sh d y cc nL ret (pc + 1) (lv.set i (some (.inr (.inl a)))) st μ Q) : X E sh d y cc nL ret pc lv (.inr (.inl a) :: st) μ Q := by
  intro p l e R s m args below meth c D cI cZ ad A H locs cells slots ls Z hC hP hD hS hA hE hl hk
  exact lv_astore_n hC.1 hC.2.1 hdg hi (x_Lhas hl) hn rfl (fun ls1 hl1 => kk p l e R s m args below meth c D cI cZ ad A H locs cells slots ls1 Z hC hP hD hS hA hE (x_Lof hl1 hp) hk)
theorem x_iinc {i : Nat} {n a : Int} (hdg : decode cc pc = .ok (.iinc i n, 3)) (hv : lv[i]? = some (some (.inl a))) (hn : i < nL) (hp : x_np lv i = true) (kk : X E sh d y cc nL ret (pc + 3) (lv.set i (some (.inl (a + n)))) st μ Q) : X E sh d y cc nL ret pc lv st μ Q := by
  intro p l e R s m args below meth c D cI cZ ad A H locs cells slots ls Z hC hP hD hS hA hE hl hk
  obtain ⟨k, hk1⟩ := List.getElem?_of_mem (x_ll_in (ad := ad) hv)
  exact lv_iinc (v := x_I (a + n)) hC.1 hC.2.1 hdg (x_Lhas hl) hk1 (x_add a n) hn rfl (fun ls1 hl1 => kk p l e R s m args below meth c D cI cZ ad A H locs cells slots ls1 Z hC hP hD hS hA hE (x_Lof (v := .inl (a + n)) hl1 hp) hk)
theorem x_istore_0 {a : Int} {v0 : Option xA} {r : List (Option xA)} (hdg : decode cc pc = .ok (.istore_n 0, 1)) (hn : 0 < nL) (kk : X E sh d y cc nL ret (pc + 1) (some (.inl a) :: r) st μ Q) : X E sh d y cc nL ret pc (v0 :: r) (.inl a :: st) μ Q := x_istore_n (i := 0) hdg rfl hn rfl kk
theorem x_iinc_0 {a n : Int} {r : List (Option xA)} (hdg : decode cc pc = .ok (.iinc 0 n, 3)) (hn : 0 < nL) (kk : X E sh d y cc nL ret (pc + 3) (some (.inl (a + n)) :: r) st μ Q) : X E sh d y cc nL ret pc (some (.inl a) :: r) st μ Q := x_iinc (i := 0) hdg rfl hn rfl kk
theorem x_astore_0 {a : Nat} {v0 : Option xA} {r : List (Option xA)} (hdg : decode cc pc = .ok (.astore_n 0, 1)) (hn : 0 < nL) (kk : X E sh d y cc nL ret (pc + 1) (some (.inr (.inl a)) :: r) st μ Q) : X E sh d y cc nL ret pc (v0 :: r) (.inr (.inl a) :: st) μ Q := x_astore_n (i := 0) hdg rfl hn rfl kk
theorem x_istore_1 {a : Int} {v0 v1 : Option xA} {r : List (Option xA)} (hdg : decode cc pc = .ok (.istore_n 1, 1)) (hn : 1 < nL) (hpv : x_nl v0 = true) (kk : X E sh d y cc nL ret (pc + 1) (v0 :: some (.inl a) :: r) st μ Q) : X E sh d y cc nL ret pc (v0 :: v1 :: r) (.inl a :: st) μ Q := x_istore_n (i := 1) hdg rfl hn hpv kk
theorem x_iinc_1 {a n : Int} {v0 : Option xA} {r : List (Option xA)} (hdg : decode cc pc = .ok (.iinc 1 n, 3)) (hn : 1 < nL) (hpv : x_nl v0 = true) (kk : X E sh d y cc nL ret (pc + 3) (v0 :: some (.inl (a + n)) :: r) st μ Q) : X E sh d y cc nL ret pc (v0 :: some (.inl a) :: r) st μ Q := x_iinc (i := 1) hdg rfl hn hpv kk
theorem x_astore_1 {a : Nat} {v0 v1 : Option xA} {r : List (Option xA)} (hdg : decode cc pc = .ok (.astore_n 1, 1)) (hn : 1 < nL) (hpv : x_nl v0 = true) (kk : X E sh d y cc nL ret (pc + 1) (v0 :: some (.inr (.inl a)) :: r) st μ Q) : X E sh d y cc nL ret pc (v0 :: v1 :: r) (.inr (.inl a) :: st) μ Q := x_astore_n (i := 1) hdg rfl hn hpv kk
theorem x_istore_2 {a : Int} {v0 v1 v2 : Option xA} {r : List (Option xA)} (hdg : decode cc pc = .ok (.istore_n 2, 1)) (hn : 2 < nL) (hpv : x_nl v1 = true) (kk : X E sh d y cc nL ret (pc + 1) (v0 :: v1 :: some (.inl a) :: r) st μ Q) : X E sh d y cc nL ret pc (v0 :: v1 :: v2 :: r) (.inl a :: st) μ Q := x_istore_n (i := 2) hdg rfl hn hpv kk
theorem x_iinc_2 {a n : Int} {v0 v1 : Option xA} {r : List (Option xA)} (hdg : decode cc pc = .ok (.iinc 2 n, 3)) (hn : 2 < nL) (hpv : x_nl v1 = true) (kk : X E sh d y cc nL ret (pc + 3) (v0 :: v1 :: some (.inl (a + n)) :: r) st μ Q) : X E sh d y cc nL ret pc (v0 :: v1 :: some (.inl a) :: r) st μ Q := x_iinc (i := 2) hdg rfl hn hpv kk
theorem x_astore_2 {a : Nat} {v0 v1 v2 : Option xA} {r : List (Option xA)} (hdg : decode cc pc = .ok (.astore_n 2, 1)) (hn : 2 < nL) (hpv : x_nl v1 = true) (kk : X E sh d y cc nL ret (pc + 1) (v0 :: v1 :: some (.inr (.inl a)) :: r) st μ Q) : X E sh d y cc nL ret pc (v0 :: v1 :: v2 :: r) (.inr (.inl a) :: st) μ Q := x_astore_n (i := 2) hdg rfl hn hpv kk
theorem x_istore_3 {a : Int} {v0 v1 v2 v3 : Option xA} {r : List (Option xA)} (hdg : decode cc pc = .ok (.istore_n 3, 1)) (hn : 3 < nL) (hpv : x_nl v2 = true) (kk : X E sh d y cc nL ret (pc + 1) (v0 :: v1 :: v2 :: some (.inl a) :: r) st μ Q) : X E sh d y cc nL ret pc (v0 :: v1 :: v2 :: v3 :: r) (.inl a :: st) μ Q := x_istore_n (i := 3) hdg rfl hn hpv kk
theorem x_iinc_3 {a n : Int} {v0 v1 v2 : Option xA} {r : List (Option xA)} (hdg : decode cc pc = .ok (.iinc 3 n, 3)) (hn : 3 < nL) (hpv : x_nl v2 = true) (kk : X E sh d y cc nL ret (pc + 3) (v0 :: v1 :: v2 :: some (.inl (a + n)) :: r) st μ Q) : X E sh d y cc nL ret pc (v0 :: v1 :: v2 :: some (.inl a) :: r) st μ Q := x_iinc (i := 3) hdg rfl hn hpv kk
theorem x_astore_3 {a : Nat} {v0 v1 v2 v3 : Option xA} {r : List (Option xA)} (hdg : decode cc pc = .ok (.astore_n 3, 1)) (hn : 3 < nL) (hpv : x_nl v2 = true) (kk : X E sh d y cc nL ret (pc + 1) (v0 :: v1 :: v2 :: some (.inr (.inl a)) :: r) st μ Q) : X E sh d y cc nL ret pc (v0 :: v1 :: v2 :: v3 :: r) (.inr (.inl a) :: st) μ Q := x_astore_n (i := 3) hdg rfl hn hpv kk
theorem x_istore_4 {a : Int} {v0 v1 v2 v3 v4 : Option xA} {r : List (Option xA)} (hdg : decode cc pc = .ok (.istore 4, 2)) (hn : 4 < nL) (hpv : x_nl v3 = true) (kk : X E sh d y cc nL ret (pc + 2) (v0 :: v1 :: v2 :: v3 :: some (.inl a) :: r) st μ Q) : X E sh d y cc nL ret pc (v0 :: v1 :: v2 :: v3 :: v4 :: r) (.inl a :: st) μ Q := x_istore (i := 4) hdg hn hpv kk
theorem x_iinc_4 {a n : Int} {v0 v1 v2 v3 : Option xA} {r : List (Option xA)} (hdg : decode cc pc = .ok (.iinc 4 n, 3)) (hn : 4 < nL) (hpv : x_nl v3 = true) (kk : X E sh d y cc nL ret (pc + 3) (v0 :: v1 :: v2 :: v3 :: some (.inl (a + n)) :: r) st μ Q) : X E sh d y cc nL ret pc (v0 :: v1 :: v2 :: v3 :: some (.inl a) :: r) st μ Q := x_iinc (i := 4) hdg rfl hn hpv kk
theorem x_istore_5 {a : Int} {v0 v1 v2 v3 v4 v5 : Option xA} {r : List (Option xA)} (hdg : decode cc pc = .ok (.istore 5, 2)) (hn : 5 < nL) (hpv : x_nl v4 = true) (kk : X E sh d y cc nL ret (pc + 2) (v0 :: v1 :: v2 :: v3 :: v4 :: some (.inl a) :: r) st μ Q) : X E sh d y cc nL ret pc (v0 :: v1 :: v2 :: v3 :: v4 :: v5 :: r) (.inl a :: st) μ Q := x_istore (i := 5) hdg hn hpv kk
theorem x_iinc_5 {a n : Int} {v0 v1 v2 v3 v4 : Option xA} {r : List (Option xA)} (hdg : decode cc pc = .ok (.iinc 5 n, 3)) (hn : 5 < nL) (hpv : x_nl v4 = true) (kk : X E sh d y cc nL ret (pc + 3) (v0 :: v1 :: v2 :: v3 :: v4 :: some (.inl (a + n)) :: r) st μ Q) : X E sh d y cc nL ret pc (v0 :: v1 :: v2 :: v3 :: v4 :: some (.inl a) :: r) st μ Q := x_iinc (i := 5) hdg rfl hn hpv kk
theorem x_istore_6 {a : Int} {v0 v1 v2 v3 v4 v5 v6 : Option xA} {r : List (Option xA)} (hdg : decode cc pc = .ok (.istore 6, 2)) (hn : 6 < nL) (hpv : x_nl v5 = true) (kk : X E sh d y cc nL ret (pc + 2) (v0 :: v1 :: v2 :: v3 :: v4 :: v5 :: some (.inl a) :: r) st μ Q) : X E sh d y cc nL ret pc (v0 :: v1 :: v2 :: v3 :: v4 :: v5 :: v6 :: r) (.inl a :: st) μ Q := x_istore (i := 6) hdg hn hpv kk
theorem x_iinc_6 {a n : Int} {v0 v1 v2 v3 v4 v5 : Option xA} {r : List (Option xA)} (hdg : decode cc pc = .ok (.iinc 6 n, 3)) (hn : 6 < nL) (hpv : x_nl v5 = true) (kk : X E sh d y cc nL ret (pc + 3) (v0 :: v1 :: v2 :: v3 :: v4 :: v5 :: some (.inl (a + n)) :: r) st μ Q) : X E sh d y cc nL ret pc (v0 :: v1 :: v2 :: v3 :: v4 :: v5 :: some (.inl a) :: r) st μ Q := x_iinc (i := 6) hdg rfl hn hpv kk
theorem x_istore_7 {a : Int} {v0 v1 v2 v3 v4 v5 v6 v7 : Option xA} {r : List (Option xA)} (hdg : decode cc pc = .ok (.istore 7, 2)) (hn : 7 < nL) (hpv : x_nl v6 = true) (kk : X E sh d y cc nL ret (pc + 2) (v0 :: v1 :: v2 :: v3 :: v4 :: v5 :: v6 :: some (.inl a) :: r) st μ Q) : X E sh d y cc nL ret pc (v0 :: v1 :: v2 :: v3 :: v4 :: v5 :: v6 :: v7 :: r) (.inl a :: st) μ Q := x_istore (i := 7) hdg hn hpv kk
theorem x_iinc_7 {a n : Int} {v0 v1 v2 v3 v4 v5 v6 : Option xA} {r : List (Option xA)} (hdg : decode cc pc = .ok (.iinc 7 n, 3)) (hn : 7 < nL) (hpv : x_nl v6 = true) (kk : X E sh d y cc nL ret (pc + 3) (v0 :: v1 :: v2 :: v3 :: v4 :: v5 :: v6 :: some (.inl (a + n)) :: r) st μ Q) : X E sh d y cc nL ret pc (v0 :: v1 :: v2 :: v3 :: v4 :: v5 :: v6 :: some (.inl a) :: r) st μ Q := x_iinc (i := 7) hdg rfl hn hpv kk
theorem x_istore_8 {a : Int} {v0 v1 v2 v3 v4 v5 v6 v7 v8 : Option xA} {r : List (Option xA)} (hdg : decode cc pc = .ok (.istore 8, 2)) (hn : 8 < nL) (hpv : x_nl v7 = true) (kk : X E sh d y cc nL ret (pc + 2) (v0 :: v1 :: v2 :: v3 :: v4 :: v5 :: v6 :: v7 :: some (.inl a) :: r) st μ Q) : X E sh d y cc nL ret pc (v0 :: v1 :: v2 :: v3 :: v4 :: v5 :: v6 :: v7 :: v8 :: r) (.inl a :: st) μ Q := x_istore (i := 8) hdg hn hpv kk
theorem x_iinc_8 {a n : Int} {v0 v1 v2 v3 v4 v5 v6 v7 : Option xA} {r : List (Option xA)} (hdg : decode cc pc = .ok (.iinc 8 n, 3)) (hn : 8 < nL) (hpv : x_nl v7 = true) (kk : X E sh d y cc nL ret (pc + 3) (v0 :: v1 :: v2 :: v3 :: v4 :: v5 :: v6 :: v7 :: some (.inl (a + n)) :: r) st μ Q) : X E sh d y cc nL ret pc (v0 :: v1 :: v2 :: v3 :: v4 :: v5 :: v6 :: v7 :: some (.inl a) :: r) st μ Q := x_iinc (i := 8) hdg rfl hn hpv kk
theorem x_iadd {a b : Int} (hdg : decode cc pc = .ok (.iadd, 1)) (kk : X E sh d y cc nL ret (pc + 1) lv (.inl (a + b) :: st) μ Q) : X E sh d y cc nL ret pc lv (.inl b :: .inl a :: st) μ Q := by
  intro p l e R s m args below meth c D cI cZ ad A H locs cells slots ls Z hC hP hD hS hA hE hl hk
  refine lv_iadd hC.1 hC.2.1 hdg ?_
  rw [x_add]
  exact kk p l e R s m args below meth c D cI cZ ad A H locs cells slots ls Z hC hP hD hS hA hE hl hk
theorem x_isub {a b : Int} (hdg : decode cc pc = .ok (.isub, 1)) (kk : X E sh d y cc nL ret (pc + 1) lv (.inl (a - b) :: st) μ Q) : X E sh d y cc nL ret pc lv (.inl b :: .inl a :: st) μ Q := by
  intro p l e R s m args below meth c D cI cZ ad A H locs cells slots ls Z hC hP hD hS hA hE hl hk
  refine lv_isub hC.1 hC.2.1 hdg ?_
  rw [x_sub]
  exact kk p l e R s m args below meth c D cI cZ ad A H locs cells slots ls Z hC hP hD hS hA hE hl hk
theorem x_imul {a b : Int} (hdg : decode cc pc = .ok (.imul, 1)) (kk : X E sh d y cc nL ret (pc + 1) lv (.inl (a * b) :: st) μ Q) : X E sh d y cc nL ret pc lv (.inl b :: .inl a :: st) μ Q := by
  intro p l e R s m args below meth c D cI cZ ad A H locs cells slots ls Z hC hP hD hS hA hE hl hk
  refine lv_imul hC.1 hC.2.1 hdg ?_
  rw [x_mul]
  exact kk p l e R s m args below meth c D cI cZ ad A H locs cells slots ls Z hC hP hD hS hA hE hl hk
theorem x_idiv {a b : Int} (hdg : decode cc pc = .ok (.idiv, 1)) (ha : x_in a) (hb : x_in b) (hq : x_in (a.tdiv b)) (h0 : b ≠ 0) (kk : X E sh d y cc nL ret (pc + 1) lv (.inl (a.tdiv b) :: st) μ Q) : X E sh d y cc nL ret pc lv (.inl b :: .inl a :: st) μ Q := by
  intro p l e R s m args below meth c D cI cZ ad A H locs cells slots ls Z hC hP hD hS hA hE hl hk
  refine lv_idiv hC.1 hC.2.1 hdg (x_ne0 hb h0) ?_
  rw [x_div ha hb hq]
  exact kk p l e R s m args below meth c D cI cZ ad A H locs cells slots ls Z hC hP hD hS hA hE hl hk
theorem x_irem {a b : Int} (hdg : decode cc pc = .ok (.irem, 1)) (ha : x_in a) (hb : x_in b) (hq : x_in (a.tdiv b)) (h0 : b ≠ 0) (kk : X E sh d y cc nL ret (pc + 1) lv (.inl (a - a.tdiv b * b) :: st) μ Q) : X E sh d y cc nL ret pc lv (.inl b :: .inl a :: st) μ Q := by
  intro p l e R s m args below meth c D cI cZ ad A H locs cells slots ls Z hC hP hD hS hA hE hl hk
  refine lv_irem hC.1 hC.2.1 hdg (x_ne0 hb h0) ?_
  rw [x_div ha hb hq, x_mul, x_sub]
  exact kk p l e R s m args below meth c D cI cZ ad A H locs cells slots ls Z hC hP hD hS hA hE hl hk
theorem x_iand {a b : Int} {r : Int} (hdg : decode cc pc = .ok (.iand, 1)) (hr : x_I a &&& x_I b = x_I r) (kk : X E sh d y cc nL ret (pc + 1) lv (.inl (r) :: st) μ Q) : X E sh d y cc nL ret pc lv (.inl b :: .inl a :: st) μ Q := by
  intro p l e R s m args below meth c D cI cZ ad A H locs cells slots ls Z hC hP hD hS hA hE hl hk
  refine lv_iand hC.1 hC.2.1 hdg ?_
  rw [hr]
  exact kk p l e R s m args below meth c D cI cZ ad A H locs cells slots ls Z hC hP hD hS hA hE hl hk
theorem x_ior {a b : Int} {r : Int} (hdg : decode cc pc = .ok (.ior, 1)) (hr : x_I a ||| x_I b = x_I r) (kk : X E sh d y cc nL ret (pc + 1) lv (.inl (r) :: st) μ Q) : X E sh d y cc nL ret pc lv (.inl b :: .inl a :: st) μ Q := by
  intro p l e R s m args below meth c D cI cZ ad A H locs cells slots ls Z hC hP hD hS hA hE hl hk
  refine lv_ior hC.1 hC.2.1 hdg ?_
  rw [hr]
  exact kk p l e R s m args below meth c D cI cZ ad A H locs cells slots ls Z hC hP hD hS hA hE hl hk
theorem x_ishl {a b : Int} {r : Int} (hdg : decode cc pc = .ok (.ishl, 1)) (hr : x_I a <<< (x_I b &&& 31) = x_I r) (kk : X E sh d y cc nL ret (pc + 1) lv (.inl (r) :: st) μ Q) : X E sh d y cc nL ret pc lv (.inl b :: .inl a :: st) μ Q := by
  intro p l e R s m args below meth c D cI cZ ad A H locs cells slots ls Z hC hP hD hS hA hE hl hk
  refine lv_ishl hC.1 hC.2.1 hdg ?_
  rw [hr]
  exact kk p l e R s m args below meth c D cI cZ ad A H locs cells slots ls Z hC hP hD hS hA hE hl hk
theorem x_ishr {a b : Int} {r : Int} (hdg : decode cc pc = .ok (.ishr, 1)) (hr : x_I a >>> (x_I b &&& 31) = x_I r) (kk : X E sh d y cc nL ret (pc + 1) lv (.inl (r) :: st) μ Q) : X E sh d y cc nL ret pc lv (.inl b :: .inl a :: st) μ Q := by
  intro p l e R s m args below meth c D cI cZ ad A H locs cells slots ls Z hC hP hD hS hA hE hl hk
  refine lv_ishr hC.1 hC.2.1 hdg ?_
  rw [hr]
  exact kk p l e R s m args below meth c D cI cZ ad A H locs cells slots ls Z hC hP hD hS hA hE hl hk
theorem x_ineg {a : Int} (hdg : decode cc pc = .ok (.ineg, 1)) (kk : X E sh d y cc nL ret (pc + 1) lv (.inl (-a) :: st) μ Q) : X E sh d y cc nL ret pc lv (.inl a :: st) μ Q := by
  intro p l e R s m args below meth c D cI cZ ad A H locs cells slots ls Z hC hP hD hS hA hE hl hk
  refine lv_ineg hC.1 hC.2.1 hdg ?_
  rw [x_neg]
  exact kk p l e R s m args below meth c D cI cZ ad A H locs cells slots ls Z hC hP hD hS hA hE hl hk
theorem x_i2l {a : Int} (hdg : decode cc pc = .ok (.i2l, 1)) (kk : X E sh d y cc nL ret (pc + 1) lv (.inr (.inr (x_I a).toInt64) :: st) μ Q) : X E sh d y cc nL ret pc lv (.inl a :: st) μ Q := by
  intro p l e R s m args below meth c D cI cZ ad A H locs cells slots ls Z hC hP hD hS hA hE hl hk
  exact lv_i2l hC.1 hC.2.1 hdg rfl (kk p l e R s m args below meth c D cI cZ ad A H locs cells slots ls Z hC hP hD hS hA hE hl hk)
theorem x_l2i {a : Int64} (hdg : decode cc pc = .ok (.l2i, 1)) (kk : X E sh d y cc nL ret (pc + 1) lv (.inl a.toInt32.toInt :: st) μ Q) : X E sh d y cc nL ret pc lv (.inr (.inr a) :: st) μ Q := by
  intro p l e R s m args below meth c D cI cZ ad A H locs cells slots ls Z hC hP hD hS hA hE hl hk
  exact lv_l2i hC.1 hC.2.1 hdg (x_ofInt _).symm (kk p l e R s m args below meth c D cI cZ ad A H locs cells slots ls Z hC hP hD hS hA hE hl hk)
theorem x_land {a b : Int64} (hdg : decode cc pc = .ok (.land, 1)) (kk : X E sh d y cc nL ret (pc + 1) lv (.inr (.inr (a &&& b)) :: st) μ Q) : X E sh d y cc nL ret pc lv (.inr (.inr b) :: .inr (.inr a) :: st) μ Q := by
  intro p l e R s m args below meth c D cI cZ ad A H locs cells slots ls Z hC hP hD hS hA hE hl hk
  exact lv_land hC.1 hC.2.1 hdg (kk p l e R s m args below meth c D cI cZ ad A H locs cells slots ls Z hC hP hD hS hA hE hl hk)
theorem x_lor {a b : Int64} (hdg : decode cc pc = .ok (.lor, 1)) (kk : X E sh d y cc nL ret (pc + 1) lv (.inr (.inr (a ||| b)) :: st) μ Q) : X E sh d y cc nL ret pc lv (.inr (.inr b) :: .inr (.inr a) :: st) μ Q := by
  intro p l e R s m args below meth c D cI cZ ad A H locs cells slots ls Z hC hP hD hS hA hE hl hk
  exact lv_lor hC.1 hC.2.1 hdg (kk p l e R s m args below meth c D cI cZ ad A H locs cells slots ls Z hC hP hD hS hA hE hl hk)
theorem x_lushr {a : Int64} {b : Int} (hdg : decode cc pc = .ok (.lushr, 1)) (kk : X E sh d y cc nL ret (pc + 1) lv (.inr (.inr ((a.toUInt64 >>> ((x_I b).toInt64.toUInt64 &&& Int64.toUInt64 63)).toInt64)) :: st) μ Q) : X E sh d y cc nL ret pc lv (.inl b :: .inr (.inr a) :: st) μ Q := by
  intro p l e R s m args below meth c D cI cZ ad A H locs cells slots ls Z hC hP hD hS hA hE hl hk
  exact lv_lushr hC.1 hC.2.1 hdg rfl (kk p l e R s m args below meth c D cI cZ ad A H locs cells slots ls Z hC hP hD hS hA hE hl hk)
theorem x_lshl {a : Int64} {b : Int} (hdg : decode cc pc = .ok (.lshl, 1)) (kk : X E sh d y cc nL ret (pc + 1) lv (.inr (.inr (a <<< ((x_I b).toInt64 &&& 63))) :: st) μ Q) : X E sh d y cc nL ret pc lv (.inl b :: .inr (.inr a) :: st) μ Q := by
  intro p l e R s m args below meth c D cI cZ ad A H locs cells slots ls Z hC hP hD hS hA hE hl hk
  exact lv_lshl hC.1 hC.2.1 hdg rfl (kk p l e R s m args below meth c D cI cZ ad A H locs cells slots ls Z hC hP hD hS hA hE hl hk)
theorem x_lshr {a : Int64} {b : Int} (hdg : decode cc pc = .ok (.lshr, 1)) (kk : X E sh d y cc nL ret (pc + 1) lv (.inr (.inr (a >>> ((x_I b).toInt64 &&& 63))) :: st) μ Q) : X E sh d y cc nL ret pc lv (.inl b :: .inr (.inr a) :: st) μ Q := by
  intro p l e R s m args below meth c D cI cZ ad A H locs cells slots ls Z hC hP hD hS hA hE hl hk
  exact lv_lshr hC.1 hC.2.1 hdg rfl (kk p l e R s m args below meth c D cI cZ ad A H locs cells slots ls Z hC hP hD hS hA hE hl hk)
theorem x_dupI {a : Int} (hdg : decode cc pc = .ok (.dup, 1)) (kk : X E sh d y cc nL ret (pc + 1) lv (.inl a :: .inl a :: st) μ Q) : X E sh d y cc nL ret pc lv (.inl a :: st) μ Q := by
  intro p l e R s m args below meth c D cI cZ ad A H locs cells slots ls Z hC hP hD hS hA hE hl hk
  exact lv_dup hC.1 hC.2.1 hdg rfl (kk p l e R s m args below meth c D cI cZ ad A H locs cells slots ls Z hC hP hD hS hA hE hl hk)
theorem x_dupR {a : Nat} (hdg : decode cc pc = .ok (.dup, 1)) (kk : X E sh d y cc nL ret (pc + 1) lv (.inr (.inl a) :: .inr (.inl a) :: st) μ Q) : X E sh d y cc nL ret pc lv (.inr (.inl a) :: st) μ Q := by
  intro p l e R s m args below meth c D cI cZ ad A H locs cells slots ls Z hC hP hD hS hA hE hl hk
  exact lv_dup hC.1 hC.2.1 hdg rfl (kk p l e R s m args below meth c D cI cZ ad A H locs cells slots ls Z hC hP hD hS hA hE hl hk)
theorem x_dup2 {a : Int} {b : Nat} (hdg : decode cc pc = .ok (.dup2, 1)) (kk : X E sh d y cc nL ret (pc + 1) lv (.inl a :: .inr (.inl b) :: .inl a :: .inr (.inl b) :: st) μ Q) : X E sh d y cc nL ret pc lv (.inl a :: .inr (.inl b) :: st) μ Q := by
  intro p l e R s m args below meth c D cI cZ ad A H locs cells slots ls Z hC hP hD hS hA hE hl hk
  exact lv_dup2_11 hC.1 hC.2.1 hdg rfl rfl (kk p l e R s m args below meth c D cI cZ ad A H locs cells slots ls Z hC hP hD hS hA hE hl hk)
theorem x_goto {off : Int} {tgt : Nat} (hdg : decode cc pc = .ok (.goto off, 3)) (ht : (pc : Int) + off = (tgt : Int)) (kk : X E sh d y cc nL ret tgt lv st μ Q) : X E sh d y cc nL ret pc lv st μ Q := by
  intro p l e R s m args below meth c D cI cZ ad A H locs cells slots ls Z hC hP hD hS hA hE hl hk
  exact lv_goto hC.1 hC.2.1 hdg ht (kk p l e R s m args below meth c D cI cZ ad A H locs cells slots ls Z hC hP hD hS hA hE hl hk)
theorem x_icmp_eq {a b : Int} {off : Int} {tgt : Nat} (hdg : decode cc pc = .ok (.if_icmp .eq off, 3)) (ht : (pc : Int) + off = (tgt : Int)) (ha : x_in a) (hb : x_in b) (kt : a = b → X E sh d y cc nL ret tgt lv st μ Q) (kf : a ≠ b → X E sh d y cc nL ret (pc + 3) lv st μ Q) : X E sh d y cc nL ret pc lv (.inl b :: .inl a :: st) μ Q := by
  intro p l e R s m args below meth c D cI cZ ad A H locs cells slots ls Z hC hP hD hS hA hE hl hk
  exact lv_icmp_eq hC.1 hC.2.1 hdg ht (fun h => kt ((x_eq ha hb).1 h) p l e R s m args below meth c D cI cZ ad A H locs cells slots ls Z hC hP hD hS hA hE hl hk) (fun h => kf (fun q => h ((x_eq ha hb).2 q)) p l e R s m args below meth c D cI cZ ad A H locs cells slots ls Z hC hP hD hS hA hE hl hk)
theorem x_icmp_ne {a b : Int} {off : Int} {tgt : Nat} (hdg : decode cc pc = .ok (.if_icmp .ne off, 3)) (ht : (pc : Int) + off = (tgt : Int)) (ha : x_in a) (hb : x_in b) (kt : a ≠ b → X E sh d y cc nL ret tgt lv st μ Q) (kf : a = b → X E sh d y cc nL ret (pc + 3) lv st μ Q) : X E sh d y cc nL ret pc lv (.inl b :: .inl a :: st) μ Q := by
  intro p l e R s m args below meth c D cI cZ ad A H locs cells slots ls Z hC hP hD hS hA hE hl hk
  exact lv_icmp_ne hC.1 hC.2.1 hdg ht (fun h => kt ((not_congr (x_eq ha hb)).1 h) p l e R s m args below meth c D cI cZ ad A H locs cells slots ls Z hC hP hD hS hA hE hl hk) (fun h => kf ((x_eq ha hb).1 h) p l e R s m args below meth c D cI cZ ad A H locs cells slots ls Z hC hP hD hS hA hE hl hk)
theorem x_icmp_lt {a b : Int} {off : Int} {tgt : Nat} (hdg : decode cc pc = .ok (.if_icmp .lt off, 3)) (ht : (pc : Int) + off = (tgt : Int)) (ha : x_in a) (hb : x_in b) (kt : a < b → X E sh d y cc nL ret tgt lv st μ Q) (kf : b ≤ a → X E sh d y cc nL ret (pc + 3) lv st μ Q) : X E sh d y cc nL ret pc lv (.inl b :: .inl a :: st) μ Q := by
  intro p l e R s m args below meth c D cI cZ ad A H locs cells slots ls Z hC hP hD hS hA hE hl hk
  exact lv_icmp_lt hC.1 hC.2.1 hdg ht (fun h => kt ((x_lt ha hb).1 h) p l e R s m args below meth c D cI cZ ad A H locs cells slots ls Z hC hP hD hS hA hE hl hk) (fun h => kf (Int.not_lt.mp (fun q => h ((x_lt ha hb).2 q))) p l e R s m args below meth c D cI cZ ad A H locs cells slots ls Z hC hP hD hS hA hE hl hk)
theorem x_icmp_ge {a b : Int} {off : Int} {tgt : Nat} (hdg : decode cc pc = .ok (.if_icmp .ge off, 3)) (ht : (pc : Int) + off = (tgt : Int)) (ha : x_in a) (hb : x_in b) (kt : b ≤ a → X E sh d y cc nL ret tgt lv st μ Q) (kf : a < b → X E sh d y cc nL ret (pc + 3) lv st μ Q) : X E sh d y cc nL ret pc lv (.inl b :: .inl a :: st) μ Q := by
  intro p l e R s m args below meth c D cI cZ ad A H locs cells slots ls Z hC hP hD hS hA hE hl hk
  exact lv_icmp_ge hC.1 hC.2.1 hdg ht (fun h => kt ((x_le hb ha).1 h) p l e R s m args below meth c D cI cZ ad A H locs cells slots ls Z hC hP hD hS hA hE hl hk) (fun h => kf (Int.not_le.mp (fun q => h ((x_le hb ha).2 q))) p l e R s m args below meth c D cI cZ ad A H locs cells slots ls Z hC hP hD hS hA hE hl hk)
theorem x_icmp_gt {a b : Int} {off : Int} {tgt : Nat} (hdg : decode cc pc = .ok (.if_icmp .gt off, 3)) (ht : (pc : Int) + off = (tgt : Int)) (ha : x_in a) (hb : x_in b) (kt : b < a → X E sh d y cc nL ret tgt lv st μ Q) (kf : a ≤ b → X E sh d y cc nL ret (pc + 3) lv st μ Q) : X E sh d y cc nL ret pc lv (.inl b :: .inl a :: st) μ Q := by
  intro p l e R s m args below meth c D cI cZ ad A H locs cells slots ls Z hC hP hD hS hA hE hl hk
  exact lv_icmp_gt hC.1 hC.2.1 hdg ht (fun h => kt ((x_lt hb ha).1 h) p l e R s m args below meth c D cI cZ ad A H locs cells slots ls Z hC hP hD hS hA hE hl hk) (fun h => kf (Int.not_lt.mp (fun q => h ((x_lt hb ha).2 q))) p l e R s m args below meth c D cI cZ ad A H locs cells slots ls Z hC hP hD hS hA hE hl hk)
theorem x_icmp_le {a b : Int} {off : Int} {tgt : Nat} (hdg : decode cc pc = .ok (.if_icmp .le off, 3)) (ht : (pc : Int) + off = (tgt : Int)) (ha : x_in a) (hb : x_in b) (kt : a ≤ b → X E sh d y cc nL ret tgt lv st μ Q) (kf : b < a → X E sh d y cc nL ret (pc + 3) lv st μ Q) : X E sh d y cc nL ret pc lv (.inl b :: .inl a :: st) μ Q := by
  intro p l e R s m args below meth c D cI cZ ad A H locs cells slots ls Z hC hP hD hS hA hE hl hk
  exact lv_icmp_le hC.1 hC.2.1 hdg ht (fun h => kt ((x_le ha hb).1 h) p l e R s m args below meth c D cI cZ ad A H locs cells slots ls Z hC hP hD hS hA hE hl hk) (fun h => kf (Int.not_le.mp (fun q => h ((x_le ha hb).2 q))) p l e R s m args below meth c D cI cZ ad A H locs cells slots ls Z hC hP hD hS hA hE hl hk)
theorem x_if_eq {a : Int} {off : Int} {tgt : Nat} (hdg : decode cc pc = .ok (.ifCond .eq off, 3)) (ht : (pc : Int) + off = (tgt : Int)) (ha : x_in a) (kt : a = 0 → X E sh d y cc nL ret tgt lv st μ Q) (kf : a ≠ 0 → X E sh d y cc nL ret (pc + 3) lv st μ Q) : X E sh d y cc nL ret pc lv (.inl a :: st) μ Q := by
  intro p l e R s m args below meth c D cI cZ ad A H locs cells slots ls Z hC hP hD hS hA hE hl hk
  have hz : x_I a = 0 ↔ a = 0 := by
    rw [← x_zero]
    exact x_eq ha x_in0
  exact lv_if_eq hC.1 hC.2.1 hdg ht (fun h => kt (hz.1 h) p l e R s m args below meth c D cI cZ ad A H locs cells slots ls Z hC hP hD hS hA hE hl hk) (fun h => kf (by
    have h2 : ¬ (a = 0) := fun q => h ((hz).2 q)
    omega) p l e R s m args below meth c D cI cZ ad A H locs cells slots ls Z hC hP hD hS hA hE hl hk)
theorem x_if_ne {a : Int} {off : Int} {tgt : Nat} (hdg : decode cc pc = .ok (.ifCond .ne off, 3)) (ht : (pc : Int) + off = (tgt : Int)) (ha : x_in a) (kt : a ≠ 0 → X E sh d y cc nL ret tgt lv st μ Q) (kf : a = 0 → X E sh d y cc nL ret (pc + 3) lv st μ Q) : X E sh d y cc nL ret pc lv (.inl a :: st) μ Q := by
  intro p l e R s m args below meth c D cI cZ ad A H locs cells slots ls Z hC hP hD hS hA hE hl hk
  have hz : x_I a = 0 ↔ a = 0 := by
    rw [← x_zero]
    exact x_eq ha x_in0
  exact lv_if_ne hC.1 hC.2.1 hdg ht (fun h => kt (fun q => h (hz.2 q)) p l e R s m args below meth c D cI cZ ad A H locs cells slots ls Z hC hP hD hS hA hE hl hk) (fun h => kf (hz.1 h) p l e R s m args below meth c D cI cZ ad A H locs cells slots ls Z hC hP hD hS hA hE hl hk)
theorem x_if_lt {a : Int} {off : Int} {tgt : Nat} (hdg : decode cc pc = .ok (.ifCond .lt off, 3)) (ht : (pc : Int) + off = (tgt : Int)) (ha : x_in a) (kt : a < 0 → X E sh d y cc nL ret tgt lv st μ Q) (kf : 0 ≤ a → X E sh d y cc nL ret (pc + 3) lv st μ Q) : X E sh d y cc nL ret pc lv (.inl a :: st) μ Q := by
  intro p l e R s m args below meth c D cI cZ ad A H locs cells slots ls Z hC hP hD hS hA hE hl hk
  have hz : x_I a < 0 ↔ a < 0 := by
    rw [← x_zero]
    exact x_lt ha x_in0
  exact lv_if_lt hC.1 hC.2.1 hdg ht (fun h => kt (hz.1 h) p l e R s m args below meth c D cI cZ ad A H locs cells slots ls Z hC hP hD hS hA hE hl hk) (fun h => kf (by
    have h2 : ¬ (a < 0) := fun q => h ((hz).2 q)
    omega) p l e R s m args below meth c D cI cZ ad A H locs cells slots ls Z hC hP hD hS hA hE hl hk)
theorem x_if_ge {a : Int} {off : Int} {tgt : Nat} (hdg : decode cc pc = .ok (.ifCond .ge off, 3)) (ht : (pc : Int) + off = (tgt : Int)) (ha : x_in a) (kt : 0 ≤ a → X E sh d y cc nL ret tgt lv st μ Q) (kf : a < 0 → X E sh d y cc nL ret (pc + 3) lv st μ Q) : X E sh d y cc nL ret pc lv (.inl a :: st) μ Q := by
  intro p l e R s m args below meth c D cI cZ ad A H locs cells slots ls Z hC hP hD hS hA hE hl hk
  have hz : 0 ≤ x_I a ↔ 0 ≤ a := by
    rw [← x_zero]
    exact x_le x_in0 ha
  exact lv_if_ge hC.1 hC.2.1 hdg ht (fun h => kt (hz.1 h) p l e R s m args below meth c D cI cZ ad A H locs cells slots ls Z hC hP hD hS hA hE hl hk) (fun h => kf (by
    have h2 : ¬ (0 ≤ a) := fun q => h ((hz).2 q)
    omega) p l e R s m args below meth c D cI cZ ad A H locs cells slots ls Z hC hP hD hS hA hE hl hk)
theorem x_if_gt {a : Int} {off : Int} {tgt : Nat} (hdg : decode cc pc = .ok (.ifCond .gt off, 3)) (ht : (pc : Int) + off = (tgt : Int)) (ha : x_in a) (kt : 0 < a → X E sh d y cc nL ret tgt lv st μ Q) (kf : a ≤ 0 → X E sh d y cc nL ret (pc + 3) lv st μ Q) : X E sh d y cc nL ret pc lv (.inl a :: st) μ Q := by
  intro p l e R s m args below meth c D cI cZ ad A H locs cells slots ls Z hC hP hD hS hA hE hl hk
  have hz : 0 < x_I a ↔ 0 < a := by
    rw [← x_zero]
    exact x_lt x_in0 ha
  exact lv_if_gt hC.1 hC.2.1 hdg ht (fun h => kt (hz.1 h) p l e R s m args below meth c D cI cZ ad A H locs cells slots ls Z hC hP hD hS hA hE hl hk) (fun h => kf (by
    have h2 : ¬ (0 < a) := fun q => h ((hz).2 q)
    omega) p l e R s m args below meth c D cI cZ ad A H locs cells slots ls Z hC hP hD hS hA hE hl hk)
theorem x_if_le {a : Int} {off : Int} {tgt : Nat} (hdg : decode cc pc = .ok (.ifCond .le off, 3)) (ht : (pc : Int) + off = (tgt : Int)) (ha : x_in a) (kt : a ≤ 0 → X E sh d y cc nL ret tgt lv st μ Q) (kf : 0 < a → X E sh d y cc nL ret (pc + 3) lv st μ Q) : X E sh d y cc nL ret pc lv (.inl a :: st) μ Q := by
  intro p l e R s m args below meth c D cI cZ ad A H locs cells slots ls Z hC hP hD hS hA hE hl hk
  have hz : x_I a ≤ 0 ↔ a ≤ 0 := by
    rw [← x_zero]
    exact x_le ha x_in0
  exact lv_if_le hC.1 hC.2.1 hdg ht (fun h => kt (hz.1 h) p l e R s m args below meth c D cI cZ ad A H locs cells slots ls Z hC hP hD hS hA hE hl hk) (fun h => kf (by
    have h2 : ¬ (a ≤ 0) := fun q => h ((hz).2 q)
    omega) p l e R s m args below meth c D cI cZ ad A H locs cells slots ls Z hC hP hD hS hA hE hl hk)
theorem x_tableAt {dflt lo hi : Int} {offs : Array Int} {len : Nat} {a off : Int} {tgt : Nat} (hdg : decode cc pc = .ok (.tableswitch dflt lo hi offs, len)) (ha : x_in a) (h1 : lo ≤ a) (h2 : a ≤ hi) (ho : offs[(a - lo).toNat]? = some off) (ht : (pc : Int) + off = (tgt : Int)) (kk : X E sh d y cc nL ret tgt lv st μ Q) : X E sh d y cc nL ret pc lv (.inl a :: st) μ Q := by
  intro p l e R s m args below meth c D cI cZ ad A H locs cells slots ls Z hC hP hD hS hA hE hl hk
  exact lv_tableIn hC.1 hC.2.1 hdg (by rw [x_toInt ha]; omega) (by rw [x_toInt ha]; omega) (by rw [x_toInt ha]; exact ho) ht (kk p l e R s m args below meth c D cI cZ ad A H locs cells slots ls Z hC hP hD hS hA hE hl hk)
theorem x_tableOut {dflt lo hi : Int} {offs : Array Int} {len : Nat} {a : Int} {tgt : Nat} (hdg : decode cc pc = .ok (.tableswitch dflt lo hi offs, len)) (ha : x_in a) (h1 : a < lo ∨ hi < a) (ht : (pc : Int) + dflt = (tgt : Int)) (kk : X E sh d y cc nL ret tgt lv st μ Q) : X E sh d y cc nL ret pc lv (.inl a :: st) μ Q := by
  intro p l e R s m args below meth c D cI cZ ad A H locs cells slots ls Z hC hP hD hS hA hE hl hk
  exact lv_tableOut hC.1 hC.2.1 hdg (by rw [x_toInt ha]; exact h1) ht (kk p l e R s m args below meth c D cI cZ ad A H locs cells slots ls Z hC hP hD hS hA hE hl hk)
theorem x_lookup {dflt : Int} {ps : Array (Int × Int)} {len : Nat} {a off : Int} {tgt : Nat} (hdg : decode cc pc = .ok (.lookupswitch dflt ps, len)) (hp : (ps.toList.zip (ps.toList.drop 1)).all (fun (a, next) => a.1 < next.1) = true) (ha : x_in a) (ho : Op.lookupswitch.offset ps.toList dflt a = off) (ht : (pc : Int) + off = (tgt : Int)) (kk : X E sh d y cc nL ret tgt lv st μ Q) : X E sh d y cc nL ret pc lv (.inl a :: st) μ Q := by
  intro p l e R s m args below meth c D cI cZ ad A H locs cells slots ls Z hC hP hD hS hA hE hl hk
  exact lv_lookup hC.1 hC.2.1 hdg hp (by rw [x_toInt ha]; exact ho) ht (kk p l e R s m args below meth c D cI cZ ad A H locs cells slots ls Z hC hP hD hS hA hE hl hk)
theorem x_getI {o k ci cp : Nat} {fs : List (Option Nat)} (hx : x_fk y.cls cp ci k) (hdg : decode cc pc = .ok (.getfield cp, 3)) (hs : sh[o]? = some (.inr (ci, fs))) (hf : fs[k]? = some none) (kk : X E sh d y cc nL ret (pc + 3) lv (.inl (μ o k) :: st) μ Q) : X E sh d y cc nL ret pc lv (.inr (.inl o) :: st) μ Q := by
  intro p l e R s m args below meth c D cI cZ ad A H locs cells slots ls Z hC hP hD hS hA hE hl hk
  obtain ⟨C, T, N, ty0, h1, h2, h3, h4, h5, h6, h7⟩ := hx
  exact va_get hC.1 hC.2.1 hC.2.2.2.2.1 (x_lay h5) hC.2.2.2.1 hC.2.2.2.2.2.1 hP o (x_wk hs) h1 k h2 (hC.2.2.2.2.1 _ (x_mem h3 rfl)) (fun x h => by rw [← h4]; exact h) (v := .int (x_I (μ o k))) (by rw [List.getElem?_mapIdx, hf]; rfl) hdg (kk p l e R s m args below meth c D cI cZ ad A H locs cells slots ls Z hC hP hD hS hA hE hl hk)
theorem x_getR {o k ci cp r : Nat} {fs : List (Option Nat)} (hx : x_fk y.cls cp ci k) (hdg : decode cc pc = .ok (.getfield cp, 3)) (hs : sh[o]? = some (.inr (ci, fs))) (hf : fs[k]? = some (some r)) (kk : X E sh d y cc nL ret (pc + 3) lv (.inr (.inl r) :: st) μ Q) : X E sh d y cc nL ret pc lv (.inr (.inl o) :: st) μ Q := by
  intro p l e R s m args below meth c D cI cZ ad A H locs cells slots ls Z hC hP hD hS hA hE hl hk
  obtain ⟨C, T, N, ty0, h1, h2, h3, h4, h5, h6, h7⟩ := hx
  exact va_get hC.1 hC.2.1 hC.2.2.2.2.1 (x_lay h5) hC.2.2.2.1 hC.2.2.2.2.2.1 hP o (x_wk hs) h1 k h2 (hC.2.2.2.2.1 _ (x_mem h3 rfl)) (fun x h => by rw [← h4]; exact h) (v := .ref (ad r)) (by rw [List.getElem?_mapIdx, hf]; rfl) hdg (kk p l e R s m args below meth c D cI cZ ad A H locs cells slots ls Z hC hP hD hS hA hE hl hk)
theorem x_e_put {cI cZ : ClassId} {ad : Nat → Nat} {o k ci : Nat} {fs : List (Option Nat)} {a : Int} (hf : fs[k]? = some none) : x_e cI cZ ad (x_st μ o k a o) (.inr (ci, fs)) = .inr (ci, (fs.mapIdx (x_f ad (μ o))).set k (.int (x_I a))) := by
  simp only [x_e]
  congr 2
  apply List.ext_getElem?
  intro i
  have hl : k < fs.length := (List.getElem?_eq_some_iff.mp hf).1
  rw [List.getElem?_set, List.getElem?_mapIdx, List.length_mapIdx, List.getElem?_mapIdx]
  by_cases hik : k = i
  · subst hik
    rw [if_pos rfl, if_pos hl, hf]
    simp [x_f, x_st]
  · rw [if_neg hik]
    cases hfi : fs[i]? with
    | none => rfl
    | some f =>
      cases f with
      | none => simp [x_f, x_st, show ¬ i = k from fun e => hik e.symm]
      | some r => rfl
theorem x_putI {o k ci cp : Nat} {fs : List (Option Nat)} {a : Int} (hx : x_pk y.cls cp ci k .int) (hdg : decode cc pc = .ok (.putfield cp, 3)) (hs : sh[o]? = some (.inr (ci, fs))) (hf : fs[k]? = some none) (kk : X E sh d y cc nL ret (pc + 3) lv st (x_st μ o k a) Q) : X E sh d y cc nL ret pc lv (.inl a :: .inr (.inl o) :: st) μ Q := by
  intro p l e R s m args below meth c D cI cZ ad A H locs cells slots ls Z hC hP hD hS hA hE hl hk
  obtain ⟨C, T, N, ty0, ⟨h1, h2, h3, h4, h5, h6, h7⟩, h8, h9⟩ := hx
  refine va_put hC.1 hC.2.1 hC.2.2.2.2.1 (x_lay h5) ty0 h6 h7 hC.2.2.2.1 hC.2.2.2.2.2.1 hP hD hS o (x_wk hs) h1 k h2 (hC.2.2.2.2.1 _ (x_mem h3 rfl)) (fun x h => by rw [← h4]; exact h) h8 (v := .int (x_I a)) h9 rfl rfl (by rw [List.length_mapIdx]; exact (List.getElem?_eq_some_iff.mp hf).1) hdg (fun H1 locs1 hP1 hD1 hS1 => ?_)
  have he1 : (x_w cI cZ ad sh μ).set o (ad o, .inr (ci, (fs.mapIdx (x_f ad (μ o))).set k (.int (x_I a)))) = x_w cI cZ ad sh (x_st μ o k a) := x_wset hs (fun b hb => by funext j; simp [x_st, hb]) (x_e_put hf)
  rw [he1] at hP1 hD1
  exact kk p l e R s m args below meth c D cI cZ ad A H1 locs1 cells slots ls Z hC hP1 hD1 hS1 hA hE hl hk
theorem x_putZ {o k ci cp : Nat} {fs : List (Option Nat)} {a : Int} (hx : x_pk y.cls cp ci k .boolean) (hdg : decode cc pc = .ok (.putfield cp, 3)) (hs : sh[o]? = some (.inr (ci, fs))) (hf : fs[k]? = some none) (ha : a = 0 ∨ a = 1) (kk : X E sh d y cc nL ret (pc + 3) lv st (x_st μ o k a) Q) : X E sh d y cc nL ret pc lv (.inl a :: .inr (.inl o) :: st) μ Q := by
  intro p l e R s m args below meth c D cI cZ ad A H locs cells slots ls Z hC hP hD hS hA hE hl hk
  obtain ⟨C, T, N, ty0, ⟨h1, h2, h3, h4, h5, h6, h7⟩, h8, h9⟩ := hx
  refine va_put hC.1 hC.2.1 hC.2.2.2.2.1 (x_lay h5) ty0 h6 h7 hC.2.2.2.1 hC.2.2.2.2.2.1 hP hD hS o (x_wk hs) h1 k h2 (hC.2.2.2.2.1 _ (x_mem h3 rfl)) (fun x h => by rw [← h4]; exact h) h8 (v := .int (x_I a)) h9 (by rcases ha with rfl | rfl <;> decide) (by rcases ha with rfl | rfl <;> decide) (by rw [List.length_mapIdx]; exact (List.getElem?_eq_some_iff.mp hf).1) hdg (fun H1 locs1 hP1 hD1 hS1 => ?_)
  have he1 : (x_w cI cZ ad sh μ).set o (ad o, .inr (ci, (fs.mapIdx (x_f ad (μ o))).set k (.int (x_I a)))) = x_w cI cZ ad sh (x_st μ o k a) := x_wset hs (fun b hb => by funext j; simp [x_st, hb]) (x_e_put hf)
  rw [he1] at hP1 hD1
  exact kk p l e R s m args below meth c D cI cZ ad A H1 locs1 cells slots ls Z hC hP1 hD1 hS1 hA hE hl hk
theorem x_iald {o n : Nat} {i : Int} (hdg : decode cc pc = .ok (.iaload, 1)) (hs : sh[o]? = some (.inl (n, false))) (hn : n < 2147483648) (h0 : 0 ≤ i) (h1 : i < n) (kk : X E sh d y cc nL ret (pc + 1) lv (.inl (μ o i.toNat) :: st) μ Q) : X E sh d y cc nL ret pc lv (.inl i :: .inr (.inl o) :: st) μ Q := by
  intro p l e R s m args below meth c D cI cZ ad A H locs cells slots ls Z hC hP hD hS hA hE hl hk
  refine va_iald hC.1 hC.2.1 hC.2.2.2.2.2.1 hP o 0 (x_wk hs) rfl (x_vpin h0 h1 hn) hdg ?_
  rw [x_cl h0 ⟨by omega, by omega⟩]
  exact kk p l e R s m args below meth c D cI cZ ad A H locs cells slots ls Z hC hP hD hS hA hE hl hk
theorem x_zald {o n : Nat} {i : Int} (hdg : decode cc pc = .ok (.baload, 1)) (hs : sh[o]? = some (.inl (n, true))) (hn : n < 2147483648) (h0 : 0 ≤ i) (h1 : i < n) (kk : X E sh d y cc nL ret (pc + 1) lv (.inl (μ o i.toNat) :: st) μ Q) : X E sh d y cc nL ret pc lv (.inl i :: .inr (.inl o) :: st) μ Q := by
  intro p l e R s m args below meth c D cI cZ ad A H locs cells slots ls Z hC hP hD hS hA hE hl hk
  refine va_zald hC.1 hC.2.1 hC.2.2.2.2.2.1 hP o 1 (x_wk hs) rfl (x_vpin h0 h1 hn) hdg ?_
  rw [x_cl h0 ⟨by omega, by omega⟩]
  exact kk p l e R s m args below meth c D cI cZ ad A H locs cells slots ls Z hC hP hD hS hA hE hl hk
theorem x_iast {o n : Nat} {i a : Int} (hdg : decode cc pc = .ok (.iastore, 1)) (hs : sh[o]? = some (.inl (n, false))) (hn : n < 2147483648) (h0 : 0 ≤ i) (h1 : i < n) (kk : X E sh d y cc nL ret (pc + 1) lv st (x_st μ o i.toNat a) Q) : X E sh d y cc nL ret pc lv (.inl a :: .inl i :: .inr (.inl o) :: st) μ Q := by
  intro p l e R s m args below meth c D cI cZ ad A H locs cells slots ls Z hC hP hD hS hA hE hl hk
  refine va_iast hC.1 hC.2.1 hC.2.2.2.2.2.1 hP hD hS o 0 (x_wk hs) rfl (x_vpin h0 h1 hn) hdg (fun H1 locs1 hP1 hD1 hS1 => ?_)
  rw [x_cl h0 ⟨by omega, by omega⟩] at hP1 hD1
  have he1 := x_wset (cI := cI) (cZ := cZ) (ad := ad) (μ := μ) (μ' := x_st μ o i.toNat a) hs (fun b hb => by funext j; simp [x_st, hb]) (e := .inl ((if false = true then cZ else cI), n, .inl (upd (fun j => x_I (μ o j)) i.toNat (x_I a)))) (by
    simp only [x_e]
    congr 4
    funext j
    simp only [x_st, upd, if_true]
    split <;> rfl)
  rw [he1] at hP1 hD1
  exact kk p l e R s m args below meth c D cI cZ ad A H1 locs1 cells slots ls Z hC hP1 hD1 hS1 hA hE hl hk
theorem x_zast {o n : Nat} {i a : Int} (hdg : decode cc pc = .ok (.bastore, 1)) (hs : sh[o]? = some (.inl (n, true))) (hn : n < 2147483648) (h0 : 0 ≤ i) (h1 : i < n) (ha : a = 0 ∨ a = 1) (kk : X E sh d y cc nL ret (pc + 1) lv st (x_st μ o i.toNat a) Q) : X E sh d y cc nL ret pc lv (.inl a :: .inl i :: .inr (.inl o) :: st) μ Q := by
  intro p l e R s m args below meth c D cI cZ ad A H locs cells slots ls Z hC hP hD hS hA hE hl hk
  refine va_zast hC.1 hC.2.1 hC.2.2.2.2.2.1 hP hD hS o 1 (x_wk hs) rfl (x_vpin h0 h1 hn) hdg (fun H1 locs1 hP1 hD1 hS1 => ?_)
  rw [x_cl h0 ⟨by omega, by omega⟩] at hP1 hD1
  have hnar : vp_nar .boolean (x_I a) = x_I a := by
    rcases ha with rfl | rfl <;> decide
  rw [hnar] at hP1 hD1
  have he1 := x_wset (cI := cI) (cZ := cZ) (ad := ad) (μ := μ) (μ' := x_st μ o i.toNat a) hs (fun b hb => by funext j; simp [x_st, hb]) (e := .inl ((if true = true then cZ else cI), n, .inl (upd (fun j => x_I (μ o j)) i.toNat (x_I a)))) (by
    simp only [x_e]
    congr 4
    funext j
    simp only [x_st, upd, if_true]
    split <;> rfl)
  rw [he1] at hP1 hD1
  exact kk p l e R s m args below meth c D cI cZ ad A H1 locs1 cells slots ls Z hC hP1 hD1 hS1 hA hE hl hk
theorem x_alen {o n : Nat} {z : Bool} (hdg : decode cc pc = .ok (.arraylength, 1)) (hs : sh[o]? = some (.inl (n, z))) (kk : X E sh d y cc nL ret (pc + 1) lv (.inl (n : Int) :: st) μ Q) : X E sh d y cc nL ret pc lv (.inr (.inl o) :: st) μ Q := by
  intro p l e R s m args below meth c D cI cZ ad A H locs cells slots ls Z hC hP hD hS hA hE hl hk
  refine va_alen (v := x_I (n : Int)) (t0 := if z = true then 1 else 0) hC.1 hC.2.1 hC.2.2.2.2.2.1 hP o (x_wk hs) (ty := if z = true then .boolean else .int) (by cases z <;> rfl) (by show Int32.ofNat n = Int32.ofInt (n : Int); exact (Int32.ofInt_eq_ofNat).symm) hdg (kk p l e R s m args below meth c D cI cZ ad A H locs cells slots ls Z hC hP hD hS hA hE hl hk)
theorem x_roald {o n : Nat} {f : Nat → Int} {i : Int} (hdg : decode cc pc = .ok (.iaload, 1)) (hs : E.1[o]? = some (n, f)) (hn : n < 2147483648) (h0 : 0 ≤ i) (h1 : i < n) (kk : X E sh d y cc nL ret (pc + 1) lv (.inl (f i.toNat) :: st) μ Q) : X E sh d y cc nL ret pc lv (.inl i :: .inr (.inl (1000 + o)) :: st) μ Q := by
  intro p l e R s m args below meth c D cI cZ ad A H locs cells slots ls Z hC hP hD hS hA hE hl hk
  obtain ⟨cell, g1, g2, g3, g4, g5, g6⟩ := hE.1 o n f hs
  have hlt : (x_I i).toNatClampNeg < n := by rw [x_cl h0 ⟨by omega, by omega⟩]; omega
  refine W.iald (v := .int (x_I (f i.toNat))) hC.1 hC.2.1 (by rw [hS.2.1 _ (Array.getElem?_eq_some_iff.mp g1).1 g6]; exact g1) g2 g3 (fun q => x_vpin h0 h1 hn (q.imp id (fun w => Nat.le_trans g4.1 w))) (by rw [← x_cl h0 ⟨by omega, by omega⟩]; exact g5 _ hlt) rfl rfl hdg (kk p l e R s m args below meth c D cI cZ ad A H locs cells slots ls Z hC hP hD hS hA hE hl hk)
theorem x_roalen {o n : Nat} {f : Nat → Int} (hdg : decode cc pc = .ok (.arraylength, 1)) (hs : E.1[o]? = some (n, f)) (kk : X E sh d y cc nL ret (pc + 1) lv (.inl (n : Int) :: st) μ Q) : X E sh d y cc nL ret pc lv (.inr (.inl (1000 + o)) :: st) μ Q := by
  intro p l e R s m args below meth c D cI cZ ad A H locs cells slots ls Z hC hP hD hS hA hE hl hk
  obtain ⟨cell, g1, g2, g3, g4, g5, g6⟩ := hE.1 o n f hs
  refine W.alen (n := x_I (n : Int)) hC.1 hC.2.1 (by rw [hS.2.1 _ (Array.getElem?_eq_some_iff.mp g1).1 g6]; exact g1) g2 (by rw [g4.2]; show Int32.ofNat n = Int32.ofInt (n : Int); exact (Int32.ofInt_eq_ofNat).symm) rfl rfl hdg (kk p l e R s m args below meth c D cI cZ ad A H locs cells slots ls Z hC hP hD hS hA hE hl hk)
theorem x_gets {i cp r : Nat} {C n dd : String} (hdg : decode cc pc = .ok (.getstatic cp, 3)) (hs : E.2[i]? = some (C, n, dd, r)) (hw : Cond.fieldLink y.cls cp C n dd ∈ lw_tbl) (kk : X E sh d y cc nL ret (pc + 3) lv (.inr (.inl r) :: st) μ Q) : X E sh d y cc nL ret pc lv st μ Q := by
  intro p l e R s m args below meth c D cI cZ ad A H locs cells slots ls Z hC hP hD hS hA hE hl hk
  exact va_gets (v := .ref (ad r)) hC.1 hC.2.1 (hE.2 i _ hs).1 hS hC.2.2.2.1 (hC.2.2.2.2.1 _ (x_mem hw rfl)) (fun x h => h) hdg (kk p l e R s m args below meth c D cI cZ ad A H locs cells slots ls Z hC hP hD hS hA hE hl hk)
theorem x_iret {a : Int} {ty : FieldType} (hdg : decode cc pc = .ok (.ireturn, 1)) (hr : ret = some ty) (hn : narrow ty (.int (x_I a)) = .int (x_I a)) (hq : Q (some (.inl a)) μ) : X E sh d y cc nL ret pc lv [.inl a] μ Q := by
  intro p l e R s m args below meth c D cI cZ ad A H locs cells slots ls Z hC hP hD hS hA hE hl hk
  exact hk (some (.inl a)) μ H locs ls pc hq hP hD hS ⟨hdg, a, ty, rfl, hr, hn⟩
theorem x_vret (hdg : decode cc pc = .ok (.return_, 1)) (hr : ret = none) (hq : Q none μ) : X E sh d y cc nL ret pc lv [] μ Q := by
  intro p l e R s m args below meth c D cI cZ ad A H locs cells slots ls Z hC hP hD hS hA hE hl hk
  exact hk none μ H locs ls pc hq hP hD hS ⟨hdg, hr⟩
theorem x_narZ {a : Int} (ha : a = 0 ∨ a = 1) : narrow .boolean (.int (x_I a)) = .int (x_I a) := by
  rcases ha with rfl | rfl <;> decide
theorem x_mmax {a b : Int} {cp : Nat} (hw : Cond.methodLink y.cls cp Lib.Math.max.name ∈ lw_tbl) (hdg : decode cc pc = .ok (.invokestatic cp, 3)) (hd : 1 ≤ d) (hr : ((st.map (x_v (fun k => k))).map fun v => v.category).sum ≤ 8) (ha : x_in a) (hb : x_in b) (kk : X E sh d y cc nL ret (pc + 3) lv (.inl (max a b) :: st) μ Q) : X E sh d y cc nL ret pc lv (.inl b :: .inl a :: st) μ Q := by
  intro p l e R s m args below meth c D cI cZ ad A H locs cells slots ls Z hC hP hD hS hA hE hl hk
  have hcat : (((st.map (x_v ad)).map fun v => v.category).sum) = (((st.map (x_v (fun k => k))).map fun v => v.category).sum) := by
    simp only [List.map_map]
    congr 2
    funext v
    rcases v with a | r | l <;> rfl
  have hx7 := hC.2.2.2.2.2.2.1
  refine va_mmax hC.1 hC.2.1 (by rw [hC.2.2.1]; exact hl.1.1.symm) hC.2.2.2.1 (hC.2.2.2.2.1 _ (x_mem hw rfl)) (hC.2.2.2.2.1 _ (x_mem ms_max rfl)) (hC.2.2.2.2.1 _ (x_mem in_Math rfl)) (hC.2.2.2.2.1 _ (x_mem mc_max rfl)) (by omega) (by rw [hcat]; omega) hC.2.2.2.2.2.2.2.1 hC.2.2.2.2.2.2.2.2 hdg ?_
  have he : (if x_I a < x_I b then x_I b else x_I a) = x_I (max a b) := by
    by_cases h : a < b
    · rw [if_pos ((x_lt ha hb).2 h)]
      congr 1
      omega
    · rw [if_neg (fun q => h ((x_lt ha hb).1 q))]
      congr 1
      omega
  rw [he]
  exact kk p l e R s m args below meth c D cI cZ ad A H locs cells slots ls Z hC hP hD hS hA hE hl hk
theorem x_mmin {a b : Int} {cp : Nat} (hw : Cond.methodLink y.cls cp Lib.Math.min.name ∈ lw_tbl) (hdg : decode cc pc = .ok (.invokestatic cp, 3)) (hd : 1 ≤ d) (hr : ((st.map (x_v (fun k => k))).map fun v => v.category).sum ≤ 8) (ha : x_in a) (hb : x_in b) (kk : X E sh d y cc nL ret (pc + 3) lv (.inl (min a b) :: st) μ Q) : X E sh d y cc nL ret pc lv (.inl b :: .inl a :: st) μ Q := by
  intro p l e R s m args below meth c D cI cZ ad A H locs cells slots ls Z hC hP hD hS hA hE hl hk
  have hcat : (((st.map (x_v ad)).map fun v => v.category).sum) = (((st.map (x_v (fun k => k))).map fun v => v.category).sum) := by
    simp only [List.map_map]
    congr 2
    funext v
    rcases v with a | r | l <;> rfl
  have hx7 := hC.2.2.2.2.2.2.1
  refine va_mmin hC.1 hC.2.1 (by rw [hC.2.2.1]; exact hl.1.1.symm) hC.2.2.2.1 (hC.2.2.2.2.1 _ (x_mem hw rfl)) (hC.2.2.2.2.1 _ (x_mem ms_min rfl)) (hC.2.2.2.2.1 _ (x_mem in_Math rfl)) (hC.2.2.2.2.1 _ (x_mem mc_min rfl)) (by omega) (by rw [hcat]; omega) hC.2.2.2.2.2.2.2.1 hC.2.2.2.2.2.2.2.2 hdg ?_
  have he : (if x_I b < x_I a then x_I b else x_I a) = x_I (min a b) := by
    by_cases h : b < a
    · rw [if_pos ((x_lt hb ha).2 h)]
      congr 1
      omega
    · rw [if_neg (fun q => h ((x_lt hb ha).1 q))]
      congr 1
      omega
  rw [he]
  exact kk p l e R s m args below meth c D cI cZ ad A H locs cells slots ls Z hC hP hD hS hA hE hl hk
theorem x_acopy {o1 o2 n1 n2 : Nat} {sp dp n : Int} {cp : Nat} (hw : Cond.methodLink y.cls cp arraycopyName ∈ lw_tbl) (hdg : decode cc pc = .ok (.invokestatic cp, 3)) (hd : 1 ≤ d) (hr : ((st.map (x_v (fun k => k))).map fun v => v.category).sum ≤ 8) (hs1 : sh[o1]? = some (.inl (n1, false))) (hs2 : sh[o2]? = some (.inl (n2, false))) (h1 : 0 ≤ sp) (h2 : 0 ≤ dp) (h3 : 0 ≤ n) (h4 : sp + n ≤ n1) (h5 : dp + n ≤ n2) (hn1 : n1 < 2147483648) (hn2 : n2 < 2147483648)
    (kk : X E sh d y cc nL ret (pc + 3) lv st (fun a => if a = o2 then va_cpy (μ o1) (μ o2) sp.toNat dp.toNat n.toNat else μ a) Q) : X E sh d y cc nL ret pc lv (.inl n :: .inl dp :: .inr (.inl o2) :: .inl sp :: .inr (.inl o1) :: st) μ Q := by
  intro p l e R s m args below meth c D cI cZ ad A H locs cells slots ls Z hC hP hD hS hA hE hl hk
  have hcat : (((st.map (x_v ad)).map fun v => v.category).sum) = (((st.map (x_v (fun k => k))).map fun v => v.category).sum) := by
    simp only [List.map_map]
    congr 2
    funext v
    rcases v with a | r | l <;> rfl
  have hx7 := hC.2.2.2.2.2.2.1
  have i1 : x_in sp := ⟨by omega, by omega⟩
  have i2 : x_in dp := ⟨by omega, by omega⟩
  have i3 : x_in n := ⟨by omega, by omega⟩
  have ng : ∀ z : Int, 0 ≤ z → x_in z → ¬ x_I z < 0 := by
    intro z hz hi h
    rw [← x_zero, x_lt hi x_in0] at h
    omega
  have hnat : nativeFrameWords "java/lang/System" "arraycopy" 5 = 7 := by decide +kernel
  refine va_copyi (ty := .int) (t0 := 0) (t1 := 0) hC.1 hC.2.1 (by rw [hC.2.2.1]; exact hl.1.1.symm) hC.2.2.2.1 (hC.2.2.2.2.1 _ (x_mem hw rfl)) (hC.2.2.2.2.1 _ (x_mem nat_arraycopy rfl)) (hC.2.2.2.2.1 _ (x_mem ms_arraycopy rfl)) (hC.2.2.2.2.1 _ (x_mem in_System rfl)) hC.2.2.2.2.2.1 hP hD hS o1 o2 (x_wk hs1) (x_wk hs2) rfl rfl rfl (ng _ h1 i1) (ng _ h2 i2) (ng _ h3 i3) (by rw [x_cl h1 i1, x_cl h3 i3]; omega) (by rw [x_cl h2 i2, x_cl h3 i3]; omega) (fun i _ => rfl) (by omega) (by rw [hcat, hnat]; omega) hdg (fun H1 locs1 hP1 hD1 hS1 => ?_)
  rw [x_cl h1 i1, x_cl h2 i2, x_cl h3 i3] at hP1 hD1
  have he1 := x_wset (cI := cI) (cZ := cZ) (ad := ad) (μ := μ) (μ' := fun a => if a = o2 then va_cpy (μ o1) (μ o2) sp.toNat dp.toNat n.toNat else μ a) hs2 (fun b hb => by simp [hb]) (e := .inl ((if false = true then cZ else cI), n2, .inl (va_cpy (fun j => x_I (μ o1 j)) (fun j => x_I (μ o2 j)) sp.toNat dp.toNat n.toNat))) (by
    simp only [x_e]
    congr 4
    funext j
    simp only [va_cpy, if_true]
    split <;> rfl)
  rw [he1] at hP1 hD1
  exact kk p l e R s m args below meth c D cI cZ ad A H1 locs1 cells slots ls Z hC hP1 hD1 hS1 hA hE hl hk
end XR
end
