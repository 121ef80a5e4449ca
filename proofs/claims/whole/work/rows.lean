section
-- ===== PART A: goes FIRST, ahead of the names: the tables' words, and 'selects' of the private methods out of them =====
/-- a private method of a class that the tables say can be made, by its rows of tables_1 -/
def lw_okq (q : MethodName × Nat) : Prop := (q.1.cls ≠ "java/lang/invoke/MethodHandle" ∧ q.1.cls ≠ "java/lang/invoke/VarHandle") ∧ Cond.instantiable q.1.cls q.2 ∈ tables_1 ∧ Cond.privateMethod q.1 ∈ tables_1 ∧ Cond.instanceMethod q.1 ∈ tables_1
theorem lw_p0 : lw_okq (⟨"TickPlans", "afterChange", "(I)I"⟩, 6) := ⟨⟨by decide +kernel, by decide +kernel⟩, List.mem_of_getElem? (i := 13) (by decide +kernel), List.mem_of_getElem? (i := 176) (by decide +kernel), List.mem_of_getElem? (i := 177) (by decide +kernel)⟩
theorem lw_p1 : lw_okq (⟨"TickPlans$Net", "refuseLink", "(IIIII)I"⟩, 9) := ⟨⟨by decide +kernel, by decide +kernel⟩, List.mem_of_getElem? (i := 21) (by decide +kernel), List.mem_of_getElem? (i := 201) (by decide +kernel), List.mem_of_getElem? (i := 202) (by decide +kernel)⟩
theorem lw_p2 : lw_okq (⟨"TickPlans$Net", "append", "(IIIII)I"⟩, 9) := ⟨⟨by decide +kernel, by decide +kernel⟩, List.mem_of_getElem? (i := 21) (by decide +kernel), List.mem_of_getElem? (i := 213) (by decide +kernel), List.mem_of_getElem? (i := 214) (by decide +kernel)⟩
theorem lw_p3 : lw_okq (⟨"TickPlans$Net", "comesFrom", "(II)Z"⟩, 9) := ⟨⟨by decide +kernel, by decide +kernel⟩, List.mem_of_getElem? (i := 21) (by decide +kernel), List.mem_of_getElem? (i := 233) (by decide +kernel), List.mem_of_getElem? (i := 234) (by decide +kernel)⟩
theorem lw_p4 : lw_okq (⟨"TickPlans$Tape", "skipBlanks", "()V"⟩, 5) := ⟨⟨by decide +kernel, by decide +kernel⟩, List.mem_of_getElem? (i := 56) (by decide +kernel), List.mem_of_getElem? (i := 309) (by decide +kernel), List.mem_of_getElem? (i := 310) (by decide +kernel)⟩
theorem lw_p5 : lw_okq (⟨"TickPlans$Tape", "readItem", "(LTickPlans$Net;)Z"⟩, 5) := ⟨⟨by decide +kernel, by decide +kernel⟩, List.mem_of_getElem? (i := 56) (by decide +kernel), List.mem_of_getElem? (i := 313) (by decide +kernel), List.mem_of_getElem? (i := 314) (by decide +kernel)⟩
theorem lw_p6 : lw_okq (⟨"TickPlans$Tape", "takeNumber", "()Z"⟩, 5) := ⟨⟨by decide +kernel, by decide +kernel⟩, List.mem_of_getElem? (i := 56) (by decide +kernel), List.mem_of_getElem? (i := 320) (by decide +kernel), List.mem_of_getElem? (i := 321) (by decide +kernel)⟩
theorem lw_p7 : lw_okq (⟨"TickPlans$Tape", "putItem", "(LTickPlans$Net;I)I"⟩, 5) := ⟨⟨by decide +kernel, by decide +kernel⟩, List.mem_of_getElem? (i := 56) (by decide +kernel), List.mem_of_getElem? (i := 324) (by decide +kernel), List.mem_of_getElem? (i := 325) (by decide +kernel)⟩
theorem lw_p8 : lw_okq (⟨"TickPlans$Choices", "putWorstWish", "(LTickPlans$Net;I)V"⟩, 3) := ⟨⟨by decide +kernel, by decide +kernel⟩, List.mem_of_getElem? (i := 79) (by decide +kernel), List.mem_of_getElem? (i := 417) (by decide +kernel), List.mem_of_getElem? (i := 418) (by decide +kernel)⟩
theorem lw_p9 : lw_okq (⟨"TickPlans$Choices", "seekSpoiled", "(LTickPlans$Net;)I"⟩, 3) := ⟨⟨by decide +kernel, by decide +kernel⟩, List.mem_of_getElem? (i := 79) (by decide +kernel), List.mem_of_getElem? (i := 461) (by decide +kernel), List.mem_of_getElem? (i := 462) (by decide +kernel)⟩
theorem lw_p10 : lw_okq (⟨"TickPlans$Choices", "canBeMet", "(LTickPlans$Net;I)Z"⟩, 3) := ⟨⟨by decide +kernel, by decide +kernel⟩, List.mem_of_getElem? (i := 79) (by decide +kernel), List.mem_of_getElem? (i := 465) (by decide +kernel), List.mem_of_getElem? (i := 466) (by decide +kernel)⟩
theorem lw_p11 : lw_okq (⟨"TickPlans$Waits", "work", "(LTickPlans$Net;)V"⟩, 9) := ⟨⟨by decide +kernel, by decide +kernel⟩, List.mem_of_getElem? (i := 96) (by decide +kernel), List.mem_of_getElem? (i := 490) (by decide +kernel), List.mem_of_getElem? (i := 491) (by decide +kernel)⟩
theorem lw_p12 : lw_okq (⟨"TickPlans$Waits", "beginDelays", "(LTickPlans$Net;)V"⟩, 9) := ⟨⟨by decide +kernel, by decide +kernel⟩, List.mem_of_getElem? (i := 96) (by decide +kernel), List.mem_of_getElem? (i := 495) (by decide +kernel), List.mem_of_getElem? (i := 496) (by decide +kernel)⟩
theorem lw_p13 : lw_okq (⟨"TickPlans$Waits", "doRound", "(LTickPlans$Net;)I"⟩, 9) := ⟨⟨by decide +kernel, by decide +kernel⟩, List.mem_of_getElem? (i := 96) (by decide +kernel), List.mem_of_getElem? (i := 507) (by decide +kernel), List.mem_of_getElem? (i := 508) (by decide +kernel)⟩
theorem lw_p14 : lw_okq (⟨"TickPlans$Waits", "carryWaitsAlongEdges", "(LTickPlans$Net;)V"⟩, 9) := ⟨⟨by decide +kernel, by decide +kernel⟩, List.mem_of_getElem? (i := 96) (by decide +kernel), List.mem_of_getElem? (i := 522) (by decide +kernel), List.mem_of_getElem? (i := 523) (by decide +kernel)⟩
theorem lw_p15 : lw_okq (⟨"TickPlans$Waits", "leastWaitVia", "(III)J"⟩, 9) := ⟨⟨by decide +kernel, by decide +kernel⟩, List.mem_of_getElem? (i := 96) (by decide +kernel), List.mem_of_getElem? (i := 526) (by decide +kernel), List.mem_of_getElem? (i := 527) (by decide +kernel)⟩
def lw_privs_1 : List (MethodName × Nat) := [(⟨"TickPlans", "afterChange", "(I)I"⟩, 6), (⟨"TickPlans$Net", "refuseLink", "(IIIII)I"⟩, 9), (⟨"TickPlans$Net", "append", "(IIIII)I"⟩, 9), (⟨"TickPlans$Net", "comesFrom", "(II)Z"⟩, 9), (⟨"TickPlans$Tape", "skipBlanks", "()V"⟩, 5), (⟨"TickPlans$Tape", "readItem", "(LTickPlans$Net;)Z"⟩, 5), (⟨"TickPlans$Tape", "takeNumber", "()Z"⟩, 5), (⟨"TickPlans$Tape", "putItem", "(LTickPlans$Net;I)I"⟩, 5), (⟨"TickPlans$Choices", "putWorstWish", "(LTickPlans$Net;I)V"⟩, 3), (⟨"TickPlans$Choices", "seekSpoiled", "(LTickPlans$Net;)I"⟩, 3), (⟨"TickPlans$Choices", "canBeMet", "(LTickPlans$Net;I)Z"⟩, 3), (⟨"TickPlans$Waits", "work", "(LTickPlans$Net;)V"⟩, 9), (⟨"TickPlans$Waits", "beginDelays", "(LTickPlans$Net;)V"⟩, 9), (⟨"TickPlans$Waits", "doRound", "(LTickPlans$Net;)I"⟩, 9), (⟨"TickPlans$Waits", "carryWaitsAlongEdges", "(LTickPlans$Net;)V"⟩, 9), (⟨"TickPlans$Waits", "leastWaitVia", "(III)J"⟩, 9)]
theorem lw_r1 : ∀ q ∈ lw_privs_1, lw_okq q := List.forall_mem_cons.mpr ⟨lw_p0, List.forall_mem_cons.mpr ⟨lw_p1, List.forall_mem_cons.mpr ⟨lw_p2, List.forall_mem_cons.mpr ⟨lw_p3, List.forall_mem_cons.mpr ⟨lw_p4, List.forall_mem_cons.mpr ⟨lw_p5, List.forall_mem_cons.mpr ⟨lw_p6, List.forall_mem_cons.mpr ⟨lw_p7, List.forall_mem_cons.mpr ⟨lw_p8, List.forall_mem_cons.mpr ⟨lw_p9, List.forall_mem_cons.mpr ⟨lw_p10, List.forall_mem_cons.mpr ⟨lw_p11, List.forall_mem_cons.mpr ⟨lw_p12, List.forall_mem_cons.mpr ⟨lw_p13, List.forall_mem_cons.mpr ⟨lw_p14, List.forall_mem_cons.mpr ⟨lw_p15, fun _ h => absurd h List.not_mem_nil⟩⟩⟩⟩⟩⟩⟩⟩⟩⟩⟩⟩⟩⟩⟩⟩
theorem lw_p16 : lw_okq (⟨"TickPlans$Waits", "turnShortWaitsIntoEdges", "(LTickPlans$Net;)V"⟩, 9) := ⟨⟨by decide +kernel, by decide +kernel⟩, List.mem_of_getElem? (i := 96) (by decide +kernel), List.mem_of_getElem? (i := 534) (by decide +kernel), List.mem_of_getElem? (i := 535) (by decide +kernel)⟩
theorem lw_p17 : lw_okq (⟨"TickPlans$Waits", "carryEdgesOverGifts", "(LTickPlans$Net;)V"⟩, 9) := ⟨⟨by decide +kernel, by decide +kernel⟩, List.mem_of_getElem? (i := 96) (by decide +kernel), List.mem_of_getElem? (i := 541) (by decide +kernel), List.mem_of_getElem? (i := 542) (by decide +kernel)⟩
theorem lw_p18 : lw_okq (⟨"TickPlans$Waits", "carryWaitsOverGifts", "(LTickPlans$Net;)V"⟩, 9) := ⟨⟨by decide +kernel, by decide +kernel⟩, List.mem_of_getElem? (i := 96) (by decide +kernel), List.mem_of_getElem? (i := 545) (by decide +kernel), List.mem_of_getElem? (i := 546) (by decide +kernel)⟩
theorem lw_p19 : lw_okq (⟨"TickPlans$Waits", "hasRingWithWaits", "(LTickPlans$Net;)Z"⟩, 9) := ⟨⟨by decide +kernel, by decide +kernel⟩, List.mem_of_getElem? (i := 96) (by decide +kernel), List.mem_of_getElem? (i := 553) (by decide +kernel), List.mem_of_getElem? (i := 554) (by decide +kernel)⟩
theorem lw_p20 : lw_okq (⟨"TickPlans$Run", "isUnderWay", "(LTickPlans$Net;I)Z"⟩, 4) := ⟨⟨by decide +kernel, by decide +kernel⟩, List.mem_of_getElem? (i := 130) (by decide +kernel), List.mem_of_getElem? (i := 628) (by decide +kernel), List.mem_of_getElem? (i := 629) (by decide +kernel)⟩
theorem lw_p21 : lw_okq (⟨"TickPlans$Run", "leastThatCanCome", "(LTickPlans$Net;LTickPlans$Waits;)I"⟩, 4) := ⟨⟨by decide +kernel, by decide +kernel⟩, List.mem_of_getElem? (i := 130) (by decide +kernel), List.mem_of_getElem? (i := 637) (by decide +kernel), List.mem_of_getElem? (i := 638) (by decide +kernel)⟩
theorem lw_p22 : lw_okq (⟨"TickPlans$Run", "firstTick", "(LTickPlans$Net;LTickPlans$Waits;I)J"⟩, 4) := ⟨⟨by decide +kernel, by decide +kernel⟩, List.mem_of_getElem? (i := 130) (by decide +kernel), List.mem_of_getElem? (i := 647) (by decide +kernel), List.mem_of_getElem? (i := 648) (by decide +kernel)⟩
theorem lw_p23 : lw_okq (⟨"TickPlans$Run", "earliestByEdges", "(LTickPlans$Net;LTickPlans$Waits;I)J"⟩, 4) := ⟨⟨by decide +kernel, by decide +kernel⟩, List.mem_of_getElem? (i := 130) (by decide +kernel), List.mem_of_getElem? (i := 651) (by decide +kernel), List.mem_of_getElem? (i := 652) (by decide +kernel)⟩
theorem lw_p24 : lw_okq (⟨"TickPlans$Run", "earliestByWaits", "(LTickPlans$Net;LTickPlans$Waits;I)J"⟩, 4) := ⟨⟨by decide +kernel, by decide +kernel⟩, List.mem_of_getElem? (i := 130) (by decide +kernel), List.mem_of_getElem? (i := 660) (by decide +kernel), List.mem_of_getElem? (i := 661) (by decide +kernel)⟩
theorem lw_p25 : lw_okq (⟨"TickPlans$Run", "latest", "(LTickPlans$Net;LTickPlans$Waits;I)J"⟩, 4) := ⟨⟨by decide +kernel, by decide +kernel⟩, List.mem_of_getElem? (i := 130) (by decide +kernel), List.mem_of_getElem? (i := 665) (by decide +kernel), List.mem_of_getElem? (i := 666) (by decide +kernel)⟩
theorem lw_p26 : lw_okq (⟨"TickPlansModel", "changed", "()V"⟩, 35) := ⟨⟨by decide +kernel, by decide +kernel⟩, List.mem_of_getElem? (i := 728) (by decide +kernel), List.mem_of_getElem? (i := 847) (by decide +kernel), List.mem_of_getElem? (i := 848) (by decide +kernel)⟩
theorem lw_p27 : lw_okq (⟨"TickPlansModel", "noMoment", "(I)Z"⟩, 35) := ⟨⟨by decide +kernel, by decide +kernel⟩, List.mem_of_getElem? (i := 728) (by decide +kernel), List.mem_of_getElem? (i := 855) (by decide +kernel), List.mem_of_getElem? (i := 856) (by decide +kernel)⟩
theorem lw_p28 : lw_okq (⟨"TickPlansModel", "added", "(IIIII)I"⟩, 35) := ⟨⟨by decide +kernel, by decide +kernel⟩, List.mem_of_getElem? (i := 728) (by decide +kernel), List.mem_of_getElem? (i := 864) (by decide +kernel), List.mem_of_getElem? (i := 865) (by decide +kernel)⟩
theorem lw_p29 : lw_okq (⟨"TickPlansModel", "giftTo", "(I)I"⟩, 35) := ⟨⟨by decide +kernel, by decide +kernel⟩, List.mem_of_getElem? (i := 728) (by decide +kernel), List.mem_of_getElem? (i := 872) (by decide +kernel), List.mem_of_getElem? (i := 873) (by decide +kernel)⟩
theorem lw_p30 : lw_okq (⟨"TickPlansModel", "comesFrom", "(II)Z"⟩, 35) := ⟨⟨by decide +kernel, by decide +kernel⟩, List.mem_of_getElem? (i := 728) (by decide +kernel), List.mem_of_getElem? (i := 876) (by decide +kernel), List.mem_of_getElem? (i := 877) (by decide +kernel)⟩
theorem lw_p31 : lw_okq (⟨"TickPlansModel", "keep", "()V"⟩, 35) := ⟨⟨by decide +kernel, by decide +kernel⟩, List.mem_of_getElem? (i := 728) (by decide +kernel), List.mem_of_getElem? (i := 904) (by decide +kernel), List.mem_of_getElem? (i := 905) (by decide +kernel)⟩
def lw_privs_2 : List (MethodName × Nat) := [(⟨"TickPlans$Waits", "turnShortWaitsIntoEdges", "(LTickPlans$Net;)V"⟩, 9), (⟨"TickPlans$Waits", "carryEdgesOverGifts", "(LTickPlans$Net;)V"⟩, 9), (⟨"TickPlans$Waits", "carryWaitsOverGifts", "(LTickPlans$Net;)V"⟩, 9), (⟨"TickPlans$Waits", "hasRingWithWaits", "(LTickPlans$Net;)Z"⟩, 9), (⟨"TickPlans$Run", "isUnderWay", "(LTickPlans$Net;I)Z"⟩, 4), (⟨"TickPlans$Run", "leastThatCanCome", "(LTickPlans$Net;LTickPlans$Waits;)I"⟩, 4), (⟨"TickPlans$Run", "firstTick", "(LTickPlans$Net;LTickPlans$Waits;I)J"⟩, 4), (⟨"TickPlans$Run", "earliestByEdges", "(LTickPlans$Net;LTickPlans$Waits;I)J"⟩, 4), (⟨"TickPlans$Run", "earliestByWaits", "(LTickPlans$Net;LTickPlans$Waits;I)J"⟩, 4), (⟨"TickPlans$Run", "latest", "(LTickPlans$Net;LTickPlans$Waits;I)J"⟩, 4), (⟨"TickPlansModel", "changed", "()V"⟩, 35), (⟨"TickPlansModel", "noMoment", "(I)Z"⟩, 35), (⟨"TickPlansModel", "added", "(IIIII)I"⟩, 35), (⟨"TickPlansModel", "giftTo", "(I)I"⟩, 35), (⟨"TickPlansModel", "comesFrom", "(II)Z"⟩, 35), (⟨"TickPlansModel", "keep", "()V"⟩, 35)]
theorem lw_r2 : ∀ q ∈ lw_privs_2, lw_okq q := List.forall_mem_cons.mpr ⟨lw_p16, List.forall_mem_cons.mpr ⟨lw_p17, List.forall_mem_cons.mpr ⟨lw_p18, List.forall_mem_cons.mpr ⟨lw_p19, List.forall_mem_cons.mpr ⟨lw_p20, List.forall_mem_cons.mpr ⟨lw_p21, List.forall_mem_cons.mpr ⟨lw_p22, List.forall_mem_cons.mpr ⟨lw_p23, List.forall_mem_cons.mpr ⟨lw_p24, List.forall_mem_cons.mpr ⟨lw_p25, List.forall_mem_cons.mpr ⟨lw_p26, List.forall_mem_cons.mpr ⟨lw_p27, List.forall_mem_cons.mpr ⟨lw_p28, List.forall_mem_cons.mpr ⟨lw_p29, List.forall_mem_cons.mpr ⟨lw_p30, List.forall_mem_cons.mpr ⟨lw_p31, fun _ h => absurd h List.not_mem_nil⟩⟩⟩⟩⟩⟩⟩⟩⟩⟩⟩⟩⟩⟩⟩⟩
theorem lw_p32 : lw_okq (⟨"TickPlansModel", "next", "()V"⟩, 35) := ⟨⟨by decide +kernel, by decide +kernel⟩, List.mem_of_getElem? (i := 728) (by decide +kernel), List.mem_of_getElem? (i := 908) (by decide +kernel), List.mem_of_getElem? (i := 909) (by decide +kernel)⟩
theorem lw_p33 : lw_okq (⟨"TickPlansModel", "isFigure", "(I)Z"⟩, 35) := ⟨⟨by decide +kernel, by decide +kernel⟩, List.mem_of_getElem? (i := 728) (by decide +kernel), List.mem_of_getElem? (i := 912) (by decide +kernel), List.mem_of_getElem? (i := 913) (by decide +kernel)⟩
theorem lw_p34 : lw_okq (⟨"TickPlansModel", "item", "()Z"⟩, 35) := ⟨⟨by decide +kernel, by decide +kernel⟩, List.mem_of_getElem? (i := 728) (by decide +kernel), List.mem_of_getElem? (i := 916) (by decide +kernel), List.mem_of_getElem? (i := 917) (by decide +kernel)⟩
theorem lw_p35 : lw_okq (⟨"TickPlansModel", "takes", "(I)Z"⟩, 35) := ⟨⟨by decide +kernel, by decide +kernel⟩, List.mem_of_getElem? (i := 728) (by decide +kernel), List.mem_of_getElem? (i := 920) (by decide +kernel), List.mem_of_getElem? (i := 921) (by decide +kernel)⟩
theorem lw_p36 : lw_okq (⟨"TickPlansModel", "bringBack", "()V"⟩, 35) := ⟨⟨by decide +kernel, by decide +kernel⟩, List.mem_of_getElem? (i := 728) (by decide +kernel), List.mem_of_getElem? (i := 927) (by decide +kernel), List.mem_of_getElem? (i := 928) (by decide +kernel)⟩
theorem lw_p37 : lw_okq (⟨"TickPlansModel", "layLinks", "(I)V"⟩, 35) := ⟨⟨by decide +kernel, by decide +kernel⟩, List.mem_of_getElem? (i := 728) (by decide +kernel), List.mem_of_getElem? (i := 935) (by decide +kernel), List.mem_of_getElem? (i := 936) (by decide +kernel)⟩
theorem lw_p38 : lw_okq (⟨"TickPlansModel", "clearWays", "(I)V"⟩, 35) := ⟨⟨by decide +kernel, by decide +kernel⟩, List.mem_of_getElem? (i := 728) (by decide +kernel), List.mem_of_getElem? (i := 939) (by decide +kernel), List.mem_of_getElem? (i := 940) (by decide +kernel)⟩
theorem lw_p39 : lw_okq (⟨"TickPlansModel", "step", "(IIJ)V"⟩, 35) := ⟨⟨by decide +kernel, by decide +kernel⟩, List.mem_of_getElem? (i := 728) (by decide +kernel), List.mem_of_getElem? (i := 944) (by decide +kernel), List.mem_of_getElem? (i := 945) (by decide +kernel)⟩
theorem lw_p40 : lw_okq (⟨"TickPlansModel", "closes", "(I)Z"⟩, 35) := ⟨⟨by decide +kernel, by decide +kernel⟩, List.mem_of_getElem? (i := 728) (by decide +kernel), List.mem_of_getElem? (i := 948) (by decide +kernel), List.mem_of_getElem? (i := 949) (by decide +kernel)⟩
theorem lw_p41 : lw_okq (⟨"TickPlansModel", "findRoot", "(I)V"⟩, 35) := ⟨⟨by decide +kernel, by decide +kernel⟩, List.mem_of_getElem? (i := 728) (by decide +kernel), List.mem_of_getElem? (i := 961) (by decide +kernel), List.mem_of_getElem? (i := 962) (by decide +kernel)⟩
theorem lw_p42 : lw_okq (⟨"TickPlansModel", "sumOf", "(IZ)J"⟩, 35) := ⟨⟨by decide +kernel, by decide +kernel⟩, List.mem_of_getElem? (i := 728) (by decide +kernel), List.mem_of_getElem? (i := 965) (by decide +kernel), List.mem_of_getElem? (i := 966) (by decide +kernel)⟩
theorem lw_p43 : lw_okq (⟨"TickPlansModel", "spoiling", "()I"⟩, 35) := ⟨⟨by decide +kernel, by decide +kernel⟩, List.mem_of_getElem? (i := 728) (by decide +kernel), List.mem_of_getElem? (i := 973) (by decide +kernel), List.mem_of_getElem? (i := 974) (by decide +kernel)⟩
theorem lw_p44 : lw_okq (⟨"TickPlansModel", "know", "()V"⟩, 35) := ⟨⟨by decide +kernel, by decide +kernel⟩, List.mem_of_getElem? (i := 728) (by decide +kernel), List.mem_of_getElem? (i := 985) (by decide +kernel), List.mem_of_getElem? (i := 986) (by decide +kernel)⟩
theorem lw_p45 : lw_okq (⟨"TickPlansModel", "end", "(I)I"⟩, 35) := ⟨⟨by decide +kernel, by decide +kernel⟩, List.mem_of_getElem? (i := 728) (by decide +kernel), List.mem_of_getElem? (i := 989) (by decide +kernel), List.mem_of_getElem? (i := 990) (by decide +kernel)⟩
theorem lw_p46 : lw_okq (⟨"TickPlansModel", "goesRound", "()I"⟩, 35) := ⟨⟨by decide +kernel, by decide +kernel⟩, List.mem_of_getElem? (i := 728) (by decide +kernel), List.mem_of_getElem? (i := 993) (by decide +kernel), List.mem_of_getElem? (i := 994) (by decide +kernel)⟩
theorem lw_p47 : lw_okq (⟨"TickPlansModel", "closesEdges", "()Z"⟩, 35) := ⟨⟨by decide +kernel, by decide +kernel⟩, List.mem_of_getElem? (i := 728) (by decide +kernel), List.mem_of_getElem? (i := 997) (by decide +kernel), List.mem_of_getElem? (i := 998) (by decide +kernel)⟩
def lw_privs_3 : List (MethodName × Nat) := [(⟨"TickPlansModel", "next", "()V"⟩, 35), (⟨"TickPlansModel", "isFigure", "(I)Z"⟩, 35), (⟨"TickPlansModel", "item", "()Z"⟩, 35), (⟨"TickPlansModel", "takes", "(I)Z"⟩, 35), (⟨"TickPlansModel", "bringBack", "()V"⟩, 35), (⟨"TickPlansModel", "layLinks", "(I)V"⟩, 35), (⟨"TickPlansModel", "clearWays", "(I)V"⟩, 35), (⟨"TickPlansModel", "step", "(IIJ)V"⟩, 35), (⟨"TickPlansModel", "closes", "(I)Z"⟩, 35), (⟨"TickPlansModel", "findRoot", "(I)V"⟩, 35), (⟨"TickPlansModel", "sumOf", "(IZ)J"⟩, 35), (⟨"TickPlansModel", "spoiling", "()I"⟩, 35), (⟨"TickPlansModel", "know", "()V"⟩, 35), (⟨"TickPlansModel", "end", "(I)I"⟩, 35), (⟨"TickPlansModel", "goesRound", "()I"⟩, 35), (⟨"TickPlansModel", "closesEdges", "()Z"⟩, 35)]
theorem lw_r3 : ∀ q ∈ lw_privs_3, lw_okq q := List.forall_mem_cons.mpr ⟨lw_p32, List.forall_mem_cons.mpr ⟨lw_p33, List.forall_mem_cons.mpr ⟨lw_p34, List.forall_mem_cons.mpr ⟨lw_p35, List.forall_mem_cons.mpr ⟨lw_p36, List.forall_mem_cons.mpr ⟨lw_p37, List.forall_mem_cons.mpr ⟨lw_p38, List.forall_mem_cons.mpr ⟨lw_p39, List.forall_mem_cons.mpr ⟨lw_p40, List.forall_mem_cons.mpr ⟨lw_p41, List.forall_mem_cons.mpr ⟨lw_p42, List.forall_mem_cons.mpr ⟨lw_p43, List.forall_mem_cons.mpr ⟨lw_p44, List.forall_mem_cons.mpr ⟨lw_p45, List.forall_mem_cons.mpr ⟨lw_p46, List.forall_mem_cons.mpr ⟨lw_p47, fun _ h => absurd h List.not_mem_nil⟩⟩⟩⟩⟩⟩⟩⟩⟩⟩⟩⟩⟩⟩⟩⟩
theorem lw_p48 : lw_okq (⟨"TickPlansModel", "combine", "()V"⟩, 35) := ⟨⟨by decide +kernel, by decide +kernel⟩, List.mem_of_getElem? (i := 728) (by decide +kernel), List.mem_of_getElem? (i := 1001) (by decide +kernel), List.mem_of_getElem? (i := 1002) (by decide +kernel)⟩
theorem lw_p49 : lw_okq (⟨"TickPlansModel", "see", "()V"⟩, 35) := ⟨⟨by decide +kernel, by decide +kernel⟩, List.mem_of_getElem? (i := 728) (by decide +kernel), List.mem_of_getElem? (i := 1005) (by decide +kernel), List.mem_of_getElem? (i := 1006) (by decide +kernel)⟩
theorem lw_p50 : lw_okq (⟨"TickPlansModel", "unwait", "()V"⟩, 35) := ⟨⟨by decide +kernel, by decide +kernel⟩, List.mem_of_getElem? (i := 728) (by decide +kernel), List.mem_of_getElem? (i := 1012) (by decide +kernel), List.mem_of_getElem? (i := 1013) (by decide +kernel)⟩
theorem lw_p51 : lw_okq (⟨"TickPlansModel", "begin", "(I)I"⟩, 35) := ⟨⟨by decide +kernel, by decide +kernel⟩, List.mem_of_getElem? (i := 728) (by decide +kernel), List.mem_of_getElem? (i := 1016) (by decide +kernel), List.mem_of_getElem? (i := 1017) (by decide +kernel)⟩
theorem lw_p52 : lw_okq (⟨"TickPlansModel", "lessEdge", "(IIJ)V"⟩, 35) := ⟨⟨by decide +kernel, by decide +kernel⟩, List.mem_of_getElem? (i := 728) (by decide +kernel), List.mem_of_getElem? (i := 1020) (by decide +kernel), List.mem_of_getElem? (i := 1021) (by decide +kernel)⟩
theorem lw_p53 : lw_okq (⟨"TickPlansModel", "comeDown", "()V"⟩, 35) := ⟨⟨by decide +kernel, by decide +kernel⟩, List.mem_of_getElem? (i := 728) (by decide +kernel), List.mem_of_getElem? (i := 1024) (by decide +kernel), List.mem_of_getElem? (i := 1025) (by decide +kernel)⟩
theorem lw_p54 : lw_okq (⟨"TickPlansModel", "lessWait", "(IIJ)V"⟩, 35) := ⟨⟨by decide +kernel, by decide +kernel⟩, List.mem_of_getElem? (i := 728) (by decide +kernel), List.mem_of_getElem? (i := 1028) (by decide +kernel), List.mem_of_getElem? (i := 1029) (by decide +kernel)⟩
theorem lw_p55 : lw_okq (⟨"TickPlansModel", "isBroken", "()Z"⟩, 35) := ⟨⟨by decide +kernel, by decide +kernel⟩, List.mem_of_getElem? (i := 728) (by decide +kernel), List.mem_of_getElem? (i := 1032) (by decide +kernel), List.mem_of_getElem? (i := 1033) (by decide +kernel)⟩
theorem lw_p56 : lw_okq (⟨"TickPlansModel", "isAsItWas", "()Z"⟩, 35) := ⟨⟨by decide +kernel, by decide +kernel⟩, List.mem_of_getElem? (i := 728) (by decide +kernel), List.mem_of_getElem? (i := 1037) (by decide +kernel), List.mem_of_getElem? (i := 1038) (by decide +kernel)⟩
theorem lw_p57 : lw_okq (⟨"TickPlansModel", "hasCome", "(I)Z"⟩, 35) := ⟨⟨by decide +kernel, by decide +kernel⟩, List.mem_of_getElem? (i := 728) (by decide +kernel), List.mem_of_getElem? (i := 1061) (by decide +kernel), List.mem_of_getElem? (i := 1062) (by decide +kernel)⟩
theorem lw_p58 : lw_okq (⟨"TickPlansModel", "isLate", "(I)Z"⟩, 35) := ⟨⟨by decide +kernel, by decide +kernel⟩, List.mem_of_getElem? (i := 728) (by decide +kernel), List.mem_of_getElem? (i := 1069) (by decide +kernel), List.mem_of_getElem? (i := 1070) (by decide +kernel)⟩
theorem lw_p59 : lw_okq (⟨"TickPlansModel", "mayCome", "(I)Z"⟩, 35) := ⟨⟨by decide +kernel, by decide +kernel⟩, List.mem_of_getElem? (i := 728) (by decide +kernel), List.mem_of_getElem? (i := 1073) (by decide +kernel), List.mem_of_getElem? (i := 1074) (by decide +kernel)⟩
theorem lw_p60 : lw_okq (⟨"TickPlansModel", "hasTime", "(I)Z"⟩, 35) := ⟨⟨by decide +kernel, by decide +kernel⟩, List.mem_of_getElem? (i := 728) (by decide +kernel), List.mem_of_getElem? (i := 1077) (by decide +kernel), List.mem_of_getElem? (i := 1078) (by decide +kernel)⟩
def lw_privs_4 : List (MethodName × Nat) := [(⟨"TickPlansModel", "combine", "()V"⟩, 35), (⟨"TickPlansModel", "see", "()V"⟩, 35), (⟨"TickPlansModel", "unwait", "()V"⟩, 35), (⟨"TickPlansModel", "begin", "(I)I"⟩, 35), (⟨"TickPlansModel", "lessEdge", "(IIJ)V"⟩, 35), (⟨"TickPlansModel", "comeDown", "()V"⟩, 35), (⟨"TickPlansModel", "lessWait", "(IIJ)V"⟩, 35), (⟨"TickPlansModel", "isBroken", "()Z"⟩, 35), (⟨"TickPlansModel", "isAsItWas", "()Z"⟩, 35), (⟨"TickPlansModel", "hasCome", "(I)Z"⟩, 35), (⟨"TickPlansModel", "isLate", "(I)Z"⟩, 35), (⟨"TickPlansModel", "mayCome", "(I)Z"⟩, 35), (⟨"TickPlansModel", "hasTime", "(I)Z"⟩, 35)]
theorem lw_r4 : ∀ q ∈ lw_privs_4, lw_okq q := List.forall_mem_cons.mpr ⟨lw_p48, List.forall_mem_cons.mpr ⟨lw_p49, List.forall_mem_cons.mpr ⟨lw_p50, List.forall_mem_cons.mpr ⟨lw_p51, List.forall_mem_cons.mpr ⟨lw_p52, List.forall_mem_cons.mpr ⟨lw_p53, List.forall_mem_cons.mpr ⟨lw_p54, List.forall_mem_cons.mpr ⟨lw_p55, List.forall_mem_cons.mpr ⟨lw_p56, List.forall_mem_cons.mpr ⟨lw_p57, List.forall_mem_cons.mpr ⟨lw_p58, List.forall_mem_cons.mpr ⟨lw_p59, List.forall_mem_cons.mpr ⟨lw_p60, fun _ h => absurd h List.not_mem_nil⟩⟩⟩⟩⟩⟩⟩⟩⟩⟩⟩⟩⟩
def lw_privs : List (MethodName × Nat) := lw_privs_1 ++ (lw_privs_2 ++ (lw_privs_3 ++ (lw_privs_4)))
def lw_tbl : List Cond := k2_sels lw_privs ++ tables_1
theorem lw_privs_ok : ∀ q ∈ lw_privs, lw_okq q := by
  show ∀ q ∈ lw_privs_1 ++ (lw_privs_2 ++ (lw_privs_3 ++ (lw_privs_4))), lw_okq q
  exact List.forall_mem_append.mpr ⟨lw_r1, List.forall_mem_append.mpr ⟨lw_r2, List.forall_mem_append.mpr ⟨lw_r3, lw_r4⟩⟩⟩
end
section
/-! the claim as data: classes, fields, methods, links (written by program out of the printed claim) -/
abbrev tkT : Type := List (Nat × Jvm.ClassFile.Instr × Nat)
/-- a method: its class, the kind of its answer (0 int, 1 boolean, 2 long, 3 none), the frames and words that its calls need, its code -/
abbrev tkM : Type := Nat × Nat × Nat × Nat × tkT
/-- name, bytes, locals, answer, static, how many parameters, the method -/
abbrev tkE : Type := MethodName × ByteArray × Nat × Option FieldType × Bool × Nat × tkM
def tk_cns : List String := ["TickPlans$Choices", "TickPlans$Net", "TickPlans$Run", "TickPlans$Tape", "TickPlans$Waits", "TickPlans", "TickPlansModel", "TickPlans$Steps", "java/lang/Math", "java/util/Arrays"]
def tk_cn (ci : Nat) : String := tk_cns.getD ci ""
def tk_flds : List (List (String × String × String × Bool)) := [
  [("TickPlans$Choices", "steps", "[J", true), ("TickPlans$Choices", "spoiledIsKnown", "Z", false), ("TickPlans$Choices", "spoiled", "I", false)],
  [("TickPlans$Net", "moments", "I", false), ("TickPlans$Net", "links", "I", false), ("TickPlans$Net", "gifts", "I", false), ("TickPlans$Net", "from", "[I", true), ("TickPlans$Net", "to", "[I", true), ("TickPlans$Net", "low", "[I", true), ("TickPlans$Net", "high", "[I", true), ("TickPlans$Net", "giftOfLink", "[I", true), ("TickPlans$Net", "linkOfGift", "[I", true)],
  [("TickPlans$Run", "ticks", "[I", true), ("TickPlans$Run", "on", "Z", false), ("TickPlans$Run", "tick", "I", false), ("TickPlans$Run", "comers", "I", false)],
  [("TickPlans$Tape", "bytes", "[B", true), ("TickPlans$Tape", "numbers", "[I", true), ("TickPlans$Tape", "size", "I", false), ("TickPlans$Tape", "place", "I", false), ("TickPlans$Tape", "number", "I", false)],
  [("TickPlans$Waits", "edges", "[J", true), ("TickPlans$Waits", "edgesBefore", "[J", true), ("TickPlans$Waits", "edgesSeen", "[J", true), ("TickPlans$Waits", "delays", "[J", true), ("TickPlans$Waits", "delaysBefore", "[J", true), ("TickPlans$Waits", "delaysSeen", "[J", true), ("TickPlans$Waits", "known", "Z", false), ("TickPlans$Waits", "alive", "Z", false), ("TickPlans$Waits", "count", "I", false)],
  [("TickPlans", "net", "LTickPlans$Net;", false), ("TickPlans", "spare", "LTickPlans$Net;", false), ("TickPlans", "tape", "LTickPlans$Tape;", true), ("TickPlans", "choices", "LTickPlans$Choices;", true), ("TickPlans", "waits", "LTickPlans$Waits;", true), ("TickPlans", "run", "LTickPlans$Run;", true)],
  [("TickPlansModel", "moments", "I", false), ("TickPlansModel", "links", "I", false), ("TickPlansModel", "gifts", "I", false), ("TickPlansModel", "from", "[I", true), ("TickPlansModel", "to", "[I", true), ("TickPlansModel", "low", "[I", true), ("TickPlansModel", "high", "[I", true), ("TickPlansModel", "giftNumber", "[I", true), ("TickPlansModel", "giftLink", "[I", true), ("TickPlansModel", "kept", "[I", true), ("TickPlansModel", "isRunning", "Z", false), ("TickPlansModel", "isKnown", "Z", false), ("TickPlansModel", "tape", "[B", true), ("TickPlansModel", "size", "I", false), ("TickPlansModel", "at", "I", false), ("TickPlansModel", "token", "I", false), ("TickPlansModel", "place", "I", false), ("TickPlansModel", "value", "I", false), ("TickPlansModel", "wrongAt", "I", false), ("TickPlansModel", "told", "[I", true), ("TickPlansModel", "way", "[J", true), ("TickPlansModel", "root", "I", false), ("TickPlansModel", "hung", "I", false), ("TickPlansModel", "edges", "[J", true), ("TickPlansModel", "waits", "[J", true), ("TickPlansModel", "wasEdges", "[J", true), ("TickPlansModel", "wasWaits", "[J", true), ("TickPlansModel", "seenEdges", "[J", true), ("TickPlansModel", "seenWaits", "[J", true), ("TickPlansModel", "isLively", "Z", false), ("TickPlansModel", "rounds", "I", false), ("TickPlansModel", "tick", "I", false), ("TickPlansModel", "cameAt", "[I", true), ("TickPlansModel", "earliest", "J", false), ("TickPlansModel", "latest", "J", false)]
]
def tk_tys : List (List FieldType) := [
  [.array .long, .boolean, .int],
  [.int, .int, .int, .array .int, .array .int, .array .int, .array .int, .array .int, .array .int],
  [.array .int, .boolean, .int, .int],
  [.array .byte, .array .int, .int, .int, .int],
  [.array .long, .array .long, .array .long, .array .long, .array .long, .array .long, .boolean, .boolean, .int],
  [.object "TickPlans$Net", .object "TickPlans$Net", .object "TickPlans$Tape", .object "TickPlans$Choices", .object "TickPlans$Waits", .object "TickPlans$Run"],
  [.int, .int, .int, .array .int, .array .int, .array .int, .array .int, .array .int, .array .int, .array .int, .boolean, .boolean, .array .byte, .int, .int, .int, .int, .int, .int, .array .int, .array .long, .int, .int, .array .long, .array .long, .array .long, .array .long, .array .long, .array .long, .boolean, .int, .int, .array .int, .long, .long]
]
/-- kinds of fields: 0 int, 1 boolean, 2 long, 3 int[], 4 long[], 5 byte[] (their lengths), 6 an object (its class), 7 a Net -/
def tk_fks : List (List (Nat × Nat)) := [
  [(4, 256), (1, 0), (0, 0)],
  [(0, 0), (0, 0), (0, 0), (3, 60), (3, 60), (3, 60), (3, 60), (3, 60), (3, 6)],
  [(3, 16), (1, 0), (0, 0), (0, 0)],
  [(5, 1000), (3, 4), (0, 0), (0, 0), (0, 0)],
  [(4, 256), (4, 256), (4, 256), (4, 96), (4, 96), (4, 96), (1, 0), (1, 0), (0, 0)],
  [(7, 0), (7, 0), (6, 3), (6, 0), (6, 4), (6, 2)],
  [(0, 0), (0, 0), (0, 0), (3, 60), (3, 60), (3, 60), (3, 60), (3, 60), (3, 6), (3, 320), (1, 0), (1, 0), (5, 1000), (0, 0), (0, 0), (0, 0), (0, 0), (0, 0), (0, 0), (3, 4), (4, 256), (0, 0), (0, 0), (4, 256), (4, 96), (4, 256), (4, 96), (4, 256), (4, 96), (1, 0), (0, 0), (0, 0), (3, 16), (2, 0), (2, 0)]
]
def tk_N (ci : Nat) : Nat := (tk_flds.getD ci []).length
def tk_T (ci : Nat) : u_T := fun k => (tk_flds.getD ci []).getD k ("", "", "", false)
def tk_ty (ci : Nat) : Nat → FieldType := fun k => (tk_tys.getD ci []).getD k .int
def tk_fk (ci k : Nat) : Nat × Nat := (tk_fks.getD ci []).getD k (8, 0)
def tk_cls : List vw_C := [(tk_cn 0, tk_T 0, 3), (tk_cn 1, tk_T 1, 9), (tk_cn 2, tk_T 2, 4), (tk_cn 3, tk_T 3, 5), (tk_cn 4, tk_T 4, 9), (tk_cn 5, tk_T 5, 6), (tk_cn 6, tk_T 6, 35)]
def tk_FL : List (Nat × Nat × Nat) := [(1, 30, 0), (1, 34, 1), (1, 37, 2), (1, 9, 3), (1, 15, 4), (1, 18, 5), (1, 21, 6), (1, 24, 7), (1, 27, 8), (3, 9, 0), (3, 15, 1), (3, 19, 2), (3, 23, 3), (3, 41, 4), (0, 9, 0), (0, 15, 1), (0, 98, 2), (4, 9, 0), (4, 15, 1), (4, 18, 2), (4, 21, 3), (4, 24, 4), (4, 27, 5), (4, 30, 6), (4, 38, 7), (4, 41, 8), (2, 9, 0), (2, 21, 1), (2, 25, 2), (2, 29, 3), (5, 10, 0), (5, 16, 1), (5, 22, 2), (5, 29, 3), (5, 36, 4), (5, 43, 5), (6, 70, 0), (6, 86, 1), (6, 78, 2), (6, 7, 3), (6, 13, 4), (6, 16, 5), (6, 19, 6), (6, 22, 7), (6, 25, 8), (6, 28, 9), (6, 67, 10), (6, 63, 11), (6, 31, 12), (6, 108, 13), (6, 111, 14), (6, 117, 15), (6, 114, 16), (6, 123, 17), (6, 129, 18), (6, 35, 19), (6, 38, 20), (6, 174, 21), (6, 177, 22), (6, 42, 23), (6, 45, 24), (6, 48, 25), (6, 51, 26), (6, 54, 27), (6, 57, 28), (6, 235, 29), (6, 229, 30), (6, 241, 31), (6, 60, 32), (6, 247, 33), (6, 251, 34)]
def tk_ML : List (Nat × Nat × Nat) := [(5, 47, 30), (5, 51, 125), (5, 186, 0), (5, 189, 80), (5, 190, 41), (5, 54, 31), (1, 51, 37), (1, 76, 15), (1, 72, 38), (1, 55, 36), (5, 58, 32), (1, 58, 29), (1, 47, 28), (1, 62, 39), (1, 80, 23), (5, 61, 33), (1, 66, 18), (5, 65, 34), (1, 69, 16), (5, 69, 35), (5, 73, 71), (5, 77, 72), (5, 81, 69), (5, 84, 73), (5, 87, 11), (5, 90, 74), (3, 26, 78), (3, 29, 75), (3, 33, 76), (3, 37, 79), (3, 44, 77), (3, 48, 30), (3, 53, 31), (3, 57, 32), (5, 94, 70), (5, 97, 13), (5, 100, 1), (0, 19, 65), (7, 27, 62), (7, 11, 191), (7, 17, 61), (7, 31, 13), (7, 37, 19), (7, 41, 20), (7, 44, 21), (7, 47, 22), (7, 50, 64), (7, 23, 63), (0, 25, 12), (0, 31, 66), (7, 54, 68), (7, 58, 67), (5, 103, 15), (5, 107, 2), (0, 35, 61), (5, 111, 3), (0, 39, 62), (0, 43, 13), (0, 46, 18), (0, 50, 4), (0, 54, 19), (0, 58, 20), (0, 61, 6), (0, 82, 28), (0, 85, 23), (0, 65, 7), (0, 88, 14), (0, 91, 27), (1, 40, 26), (1, 44, 25), (0, 69, 5), (0, 72, 21), (0, 75, 22), (0, 78, 64), (5, 114, 8), (0, 94, 9), (0, 102, 10), (0, 106, 24), (5, 118, 17), (5, 121, 27), (5, 124, 81), (4, 34, 86), (4, 52, 65), (4, 56, 87), (4, 65, 191), (4, 71, 14), (4, 77, 24), (4, 51, 85), (4, 81, 26), (4, 59, 88), (4, 84, 97), (4, 88, 12), (4, 91, 66), (4, 95, 89), (4, 119, 90), (4, 45, 61), (4, 98, 91), (4, 129, 25), (4, 132, 23), (4, 135, 63), (4, 101, 92), (4, 104, 93), (4, 107, 95), (4, 111, 94), (4, 115, 96), (5, 127, 82), (5, 130, 83), (5, 133, 84), (5, 136, 40), (2, 15, 192), (5, 139, 42), (5, 142, 49), (2, 41, 28), (2, 32, 46), (2, 45, 23), (2, 48, 25), (2, 51, 26), (5, 146, 48), (5, 149, 50), (2, 54, 14), (2, 58, 51), (2, 62, 24), (5, 152, 53), (2, 69, 54), (2, 77, 12), (2, 80, 47), (2, 36, 29), (2, 65, 56), (2, 89, 57), (2, 103, 83), (2, 92, 58), (2, 109, 84), (2, 98, 59), (2, 73, 48), (5, 157, 55), (5, 161, 45), (5, 164, 47), (5, 167, 52), (5, 171, 43), (5, 174, 44), (5, 177, 12), (5, 180, 60), (2, 112, 13), (2, 115, 20), (2, 118, 19), (2, 121, 21), (2, 124, 22), (5, 183, 14), (6, 74, 126), (6, 81, 127), (6, 89, 128), (6, 93, 131), (6, 97, 132), (6, 101, 129), (6, 105, 134), (6, 144, 145), (6, 126, 142), (6, 120, 141), (6, 147, 144), (6, 132, 143), (6, 135, 130), (6, 137, 133), (6, 141, 135), (6, 151, 146), (6, 164, 151), (6, 160, 148), (6, 156, 149), (6, 167, 150), (6, 170, 152), (6, 180, 154), (6, 183, 155), (6, 187, 157), (6, 238, 173), (6, 197, 165), (6, 232, 172), (6, 211, 166), (6, 214, 167), (6, 190, 163), (6, 193, 160), (6, 217, 168), (6, 200, 164), (6, 203, 161), (6, 220, 169), (6, 206, 162), (6, 223, 170), (6, 226, 171), (6, 244, 179), (6, 257, 180), (6, 260, 182), (6, 254, 181)]
def tk_KI : List (Nat × Nat × Int32) := [(1, 50, (-100000)), (1, 79, 100000), (5, 156, 200000), (6, 84, (-100000)), (6, 85, 100000), (6, 263, 200000)]
def tk_KL : List (Nat × Nat × Int64) := [(7, 9, 4611686018427387904), (4, 63, 4611686018427387904), (4, 139, (-1000000000000)), (2, 101, 4611686018427387904), (6, 154, 4611686018427387904), (6, 209, (-1000000000000))]
/-- calls of the JDK that are rows of their own: 1 System.arraycopy, 2 Math.max(JJ), 3 Math.min(JJ), 4 Math.min(II) -/
def tk_CP : List (Nat × Nat × Nat) := [(4, 141, 4), (4, 143, 1), (4, 123, 3), (2, 95, 2), (2, 83, 3)]
def tc_0 : tkT := [(0, .aload_n 0, 1), (1, .iconst 0, 1), (2, .putfield 15, 3), (5, .return_, 1)]
def tm_0 : tkM := (0, 3, 0, 0, tc_0) -- TickPlans$Choices.forget()V
def te_0 : tkE := (⟨"TickPlans$Choices", "forget", "()V"⟩, prog_2_method_2_code, 1, none, false, 0, tm_0)
def tc_1 : tkT := [(0, .aload_n 1, 1), (1, .aload_n 0, 1), (2, .getfield 9, 3), (5, .invokestatic 19, 3), (8, .aload_n 0, 1), (9, .getfield 9, 3), (12, .aload_n 1, 1), (13, .invokevirtual 25, 3), (16, .invokestatic 31, 3), (19, .ireturn, 1)]
def tm_1 : tkM := (0, 1, 3, 73, tc_1) -- TickPlans$Choices.hangsTogether(LTickPlans$Net;)Z
def te_1 : tkE := (⟨"TickPlans$Choices", "hangsTogether", "(LTickPlans$Net;)Z"⟩, prog_2_method_3_code, 2, (some .boolean), false, 1, tm_1)
def tc_2 : tkT := [(0, .aload_n 0, 1), (1, .getfield 9, 3), (4, .iload_n 1, 1), (5, .iload_n 2, 1), (6, .invokestatic 35, 3), (9, .laload, 1), (10, .lreturn, 1)]
def tm_2 : tkM := (0, 2, 1, 21, tc_2) -- TickPlans$Choices.leastSum(II)J
def te_2 : tkE := (⟨"TickPlans$Choices", "leastSum", "(II)J"⟩, prog_2_method_4_code, 3, (some .long), false, 2, tm_2)
def tc_3 : tkT := [(0, .aload_n 0, 1), (1, .getfield 9, 3), (4, .invokestatic 39, 3), (7, .iconst 0, 1), (8, .istore_n 2, 1), (9, .iload_n 2, 1), (10, .aload_n 1, 1), (11, .invokevirtual 43, 3), (14, .if_icmp .ge 23, 3), (17, .aload_n 1, 1), (18, .iload_n 2, 1), (19, .invokevirtual 46, 3), (22, .ifCond .ne 9, 3), (25, .aload_n 0, 1), (26, .aload_n 1, 1), (27, .iload_n 2, 1), (28, .invokevirtual 50, 3), (31, .iinc 2 1, 3), (34, .goto (-25), 3), (37, .aload_n 0, 1), (38, .getfield 9, 3), (41, .aload_n 1, 1), (42, .invokevirtual 25, 3), (45, .invokestatic 31, 3), (48, .ireturn, 1)]
def tm_3 : tkM := (0, 1, 4, 100, tc_3) -- TickPlans$Choices.isStrong(LTickPlans$Net;)Z
def te_3 : tkE := (⟨"TickPlans$Choices", "isStrong", "(LTickPlans$Net;)Z"⟩, prog_2_method_5_code, 3, (some .boolean), false, 1, tm_3)
def tc_4 : tkT := [(0, .aload_n 1, 1), (1, .iload_n 2, 1), (2, .invokevirtual 54, 3), (5, .istore_n 3, 1), (6, .aload_n 1, 1), (7, .iload_n 2, 1), (8, .invokevirtual 58, 3), (11, .istore 4, 2), (13, .aload_n 1, 1), (14, .iload_n 3, 1), (15, .invokestatic 61, 3), (18, .istore 5, 2), (20, .aload_n 1, 1), (21, .iload 4, 2), (23, .invokestatic 61, 3), (26, .istore 6, 2), (28, .iload 5, 2), (30, .iload 6, 2), (32, .iconst (-1), 1), (33, .ixor, 1), (34, .iand, 1), (35, .istore 7, 2), (37, .iload 6, 2), (39, .iload 5, 2), (41, .iconst (-1), 1), (42, .ixor, 1), (43, .iand, 1), (44, .istore 8, 2), (46, .aload_n 1, 1), (47, .iload 8, 2), (49, .bipush 63, 2), (51, .invokestatic 65, 3), (54, .aload_n 1, 1), (55, .iload 7, 2), (57, .iconst 0, 1), (58, .invokestatic 65, 3), (61, .lsub, 1), (62, .lstore 9, 2), (64, .aload_n 1, 1), (65, .iload 8, 2), (67, .iconst 0, 1), (68, .invokestatic 65, 3), (71, .aload_n 1, 1), (72, .iload 7, 2), (74, .bipush 63, 2), (76, .invokestatic 65, 3), (79, .lsub, 1), (80, .lstore 11, 2), (82, .aload_n 0, 1), (83, .getfield 9, 3), (86, .aload_n 1, 1), (87, .iload_n 3, 1), (88, .invokestatic 69, 3), (91, .aload_n 1, 1), (92, .iload 4, 2), (94, .invokestatic 69, 3), (97, .aload_n 1, 1), (98, .iload_n 2, 1), (99, .invokevirtual 72, 3), (102, .i2l, 1), (103, .lload 11, 2), (105, .lsub, 1), (106, .aload_n 1, 1), (107, .iload_n 2, 1), (108, .invokevirtual 75, 3), (111, .i2l, 1), (112, .lload 9, 2), (114, .lsub, 1), (115, .invokestatic 78, 3), (118, .return_, 1)]
def tm_4 : tkM := (0, 3, 3, 68, tc_4) -- TickPlans$Choices.putWorstWish(LTickPlans$Net;I)V
def te_4 : tkE := (⟨"TickPlans$Choices", "putWorstWish", "(LTickPlans$Net;I)V"⟩, prog_2_method_6_code, 13, none, false, 2, tm_4)
def tc_5 : tkT := [(0, .iload_n 1, 1), (1, .istore_n 2, 1), (2, .iconst 0, 1), (3, .istore_n 3, 1), (4, .iload_n 3, 1), (5, .bipush 6, 2), (7, .if_icmp .ge 32, 3), (10, .aload_n 0, 1), (11, .iload_n 2, 1), (12, .invokevirtual 82, 3), (15, .istore 4, 2), (17, .iload 4, 2), (19, .bipush (-9), 2), (21, .if_icmp .ne 5, 3), (24, .iload_n 2, 1), (25, .ireturn, 1), (26, .aload_n 0, 1), (27, .iload 4, 2), (29, .invokevirtual 85, 3), (32, .istore_n 2, 1), (33, .iinc 3 1, 3), (36, .goto (-32), 3), (39, .iload_n 2, 1), (40, .ireturn, 1)]
def tm_5 : tkM := (0, 0, 1, 22, tc_5) -- TickPlans$Choices.rootOf(LTickPlans$Net;I)I
def te_5 : tkE := (⟨"TickPlans$Choices", "rootOf", "(LTickPlans$Net;I)I"⟩, prog_2_method_7_code, 5, (some .int), true, 2, tm_5)
def tc_6 : tkT := [(0, .iload_n 1, 1), (1, .istore_n 2, 1), (2, .iconst 0, 1), (3, .istore_n 3, 1), (4, .iconst 0, 1), (5, .istore 4, 2), (7, .iload 4, 2), (9, .bipush 6, 2), (11, .if_icmp .ge 39, 3), (14, .aload_n 0, 1), (15, .iload_n 2, 1), (16, .invokevirtual 82, 3), (19, .istore 5, 2), (21, .iload 5, 2), (23, .bipush (-9), 2), (25, .if_icmp .ne 5, 3), (28, .iload_n 3, 1), (29, .ireturn, 1), (30, .iload_n 3, 1), (31, .iconst 1, 1), (32, .iload 5, 2), (34, .ishl, 1), (35, .ior, 1), (36, .istore_n 3, 1), (37, .aload_n 0, 1), (38, .iload 5, 2), (40, .invokevirtual 85, 3), (43, .istore_n 2, 1), (44, .iinc 4 1, 3), (47, .goto (-40), 3), (50, .iload_n 3, 1), (51, .ireturn, 1)]
def tm_6 : tkM := (0, 0, 1, 22, tc_6) -- TickPlans$Choices.giftsBehind(LTickPlans$Net;I)I
def te_6 : tkE := (⟨"TickPlans$Choices", "giftsBehind", "(LTickPlans$Net;I)I"⟩, prog_2_method_8_code, 6, (some .int), true, 2, tm_6)
def tc_7 : tkT := [(0, .lconst 0, 1), (1, .lstore_n 3, 1), (2, .iconst 0, 1), (3, .istore 5, 2), (5, .iload 5, 2), (7, .aload_n 0, 1), (8, .invokevirtual 88, 3), (11, .if_icmp .ge 30, 3), (14, .iload_n 1, 1), (15, .iload 5, 2), (17, .ishr, 1), (18, .iconst 1, 1), (19, .iand, 1), (20, .iconst 1, 1), (21, .if_icmp .ne 14, 3), (24, .lload_n 3, 1), (25, .aload_n 0, 1), (26, .iload 5, 2), (28, .iload_n 2, 1), (29, .invokevirtual 91, 3), (32, .i2l, 1), (33, .ladd, 1), (34, .lstore_n 3, 1), (35, .iinc 5 1, 3), (38, .goto (-33), 3), (41, .lload_n 3, 1), (42, .lreturn, 1)]
def tm_7 : tkM := (0, 2, 2, 43, tc_7) -- TickPlans$Choices.sumOfLengths(LTickPlans$Net;II)J
def te_7 : tkE := (⟨"TickPlans$Choices", "sumOfLengths", "(LTickPlans$Net;II)J"⟩, prog_2_method_9_code, 6, (some .long), true, 3, tm_7)
def tc_8 : tkT := [(0, .aload_n 0, 1), (1, .getfield 15, 3), (4, .ifCond .ne 17, 3), (7, .aload_n 0, 1), (8, .aload_n 0, 1), (9, .aload_n 1, 1), (10, .invokevirtual 94, 3), (13, .putfield 98, 3), (16, .aload_n 0, 1), (17, .iconst 1, 1), (18, .putfield 15, 3), (21, .aload_n 0, 1), (22, .getfield 98, 3), (25, .ireturn, 1)]
def tm_8 : tkM := (0, 0, 5, 120, tc_8) -- TickPlans$Choices.firstSpoiled(LTickPlans$Net;)I
def te_8 : tkE := (⟨"TickPlans$Choices", "firstSpoiled", "(LTickPlans$Net;)I"⟩, prog_2_method_10_code, 2, (some .int), false, 1, tm_8)
def tc_9 : tkT := [(0, .iconst 0, 1), (1, .istore_n 2, 1), (2, .iload_n 2, 1), (3, .iconst 1, 1), (4, .aload_n 1, 1), (5, .invokevirtual 88, 3), (8, .ishl, 1), (9, .if_icmp .ge 20, 3), (12, .aload_n 0, 1), (13, .aload_n 1, 1), (14, .iload_n 2, 1), (15, .invokevirtual 102, 3), (18, .ifCond .ne 5, 3), (21, .iload_n 2, 1), (22, .ireturn, 1), (23, .iinc 2 1, 3), (26, .goto (-24), 3), (29, .bipush (-9), 2), (31, .ireturn, 1)]
def tm_9 : tkM := (0, 0, 4, 98, tc_9) -- TickPlans$Choices.seekSpoiled(LTickPlans$Net;)I
def te_9 : tkE := (⟨"TickPlans$Choices", "seekSpoiled", "(LTickPlans$Net;)I"⟩, prog_2_method_11_code, 3, (some .int), false, 1, tm_9)
def tc_10 : tkT := [(0, .aload_n 1, 1), (1, .aload_n 0, 1), (2, .getfield 9, 3), (5, .invokestatic 19, 3), (8, .iconst 0, 1), (9, .istore_n 3, 1), (10, .iload_n 3, 1), (11, .aload_n 1, 1), (12, .invokevirtual 88, 3), (15, .if_icmp .ge 39, 3), (18, .aload_n 1, 1), (19, .iload_n 3, 1), (20, .iload_n 2, 1), (21, .invokevirtual 91, 3), (24, .i2l, 1), (25, .lstore 4, 2), (27, .aload_n 0, 1), (28, .getfield 9, 3), (31, .aload_n 1, 1), (32, .iload_n 3, 1), (33, .invokevirtual 85, 3), (36, .aload_n 1, 1), (37, .iload_n 3, 1), (38, .invokevirtual 106, 3), (41, .lload 4, 2), (43, .lload 4, 2), (45, .invokestatic 78, 3), (48, .iinc 3 1, 3), (51, .goto (-41), 3), (54, .aload_n 0, 1), (55, .getfield 9, 3), (58, .aload_n 1, 1), (59, .invokevirtual 25, 3), (62, .invokestatic 31, 3), (65, .ireturn, 1)]
def tm_10 : tkM := (0, 1, 3, 73, tc_10) -- TickPlans$Choices.canBeMet(LTickPlans$Net;I)Z
def te_10 : tkE := (⟨"TickPlans$Choices", "canBeMet", "(LTickPlans$Net;I)Z"⟩, prog_2_method_12_code, 6, (some .boolean), false, 2, tm_10)
def tc_11 : tkT := [(0, .aload_n 0, 1), (1, .iconst 0, 1), (2, .putfield 30, 3), (5, .aload_n 0, 1), (6, .iconst 0, 1), (7, .putfield 34, 3), (10, .aload_n 0, 1), (11, .iconst 0, 1), (12, .putfield 37, 3), (15, .return_, 1)]
def tm_11 : tkM := (1, 3, 0, 0, tc_11) -- TickPlans$Net.clear()V
def te_11 : tkE := (⟨"TickPlans$Net", "clear", "()V"⟩, prog_3_method_2_code, 1, none, false, 0, tm_11)
def tc_12 : tkT := [(0, .aload_n 0, 1), (1, .getfield 30, 3), (4, .ireturn, 1)]
def tm_12 : tkM := (1, 0, 0, 0, tc_12) -- TickPlans$Net.momentCount()I
def te_12 : tkE := (⟨"TickPlans$Net", "momentCount", "()I"⟩, prog_3_method_3_code, 1, (some .int), false, 0, tm_12)
def tc_13 : tkT := [(0, .aload_n 0, 1), (1, .getfield 34, 3), (4, .ireturn, 1)]
def tm_13 : tkM := (1, 0, 0, 0, tc_13) -- TickPlans$Net.linkCount()I
def te_13 : tkE := (⟨"TickPlans$Net", "linkCount", "()I"⟩, prog_3_method_4_code, 1, (some .int), false, 0, tm_13)
def tc_14 : tkT := [(0, .aload_n 0, 1), (1, .getfield 37, 3), (4, .ireturn, 1)]
def tm_14 : tkM := (1, 0, 0, 0, tc_14) -- TickPlans$Net.giftCount()I
def te_14 : tkE := (⟨"TickPlans$Net", "giftCount", "()I"⟩, prog_3_method_5_code, 1, (some .int), false, 0, tm_14)
def tc_15 : tkT := [(0, .iload_n 1, 1), (1, .ifCond .lt 15, 3), (4, .iload_n 1, 1), (5, .aload_n 0, 1), (6, .getfield 30, 3), (9, .if_icmp .ge 7, 3), (12, .iconst 1, 1), (13, .goto 4, 3), (16, .iconst 0, 1), (17, .ireturn, 1)]
def tm_15 : tkM := (1, 1, 0, 0, tc_15) -- TickPlans$Net.hasMoment(I)Z
def te_15 : tkE := (⟨"TickPlans$Net", "hasMoment", "(I)Z"⟩, prog_3_method_6_code, 2, (some .boolean), false, 1, tm_15)
def tc_16 : tkT := [(0, .iload_n 1, 1), (1, .ifCond .lt 15, 3), (4, .iload_n 1, 1), (5, .aload_n 0, 1), (6, .getfield 34, 3), (9, .if_icmp .ge 7, 3), (12, .iconst 1, 1), (13, .goto 4, 3), (16, .iconst 0, 1), (17, .ireturn, 1)]
def tm_16 : tkM := (1, 1, 0, 0, tc_16) -- TickPlans$Net.hasLink(I)Z
def te_16 : tkE := (⟨"TickPlans$Net", "hasLink", "(I)Z"⟩, prog_3_method_7_code, 2, (some .boolean), false, 1, tm_16)
def tc_17 : tkT := [(0, .iload_n 1, 1), (1, .ifCond .lt 15, 3), (4, .iload_n 1, 1), (5, .aload_n 0, 1), (6, .getfield 37, 3), (9, .if_icmp .ge 7, 3), (12, .iconst 1, 1), (13, .goto 4, 3), (16, .iconst 0, 1), (17, .ireturn, 1)]
def tm_17 : tkM := (1, 1, 0, 0, tc_17) -- TickPlans$Net.hasGift(I)Z
def te_17 : tkE := (⟨"TickPlans$Net", "hasGift", "(I)Z"⟩, prog_3_method_8_code, 2, (some .boolean), false, 1, tm_17)
def tc_18 : tkT := [(0, .aload_n 0, 1), (1, .getfield 24, 3), (4, .iload_n 1, 1), (5, .iaload, 1), (6, .bipush (-9), 2), (8, .if_icmp .eq 7, 3), (11, .iconst 1, 1), (12, .goto 4, 3), (15, .iconst 0, 1), (16, .ireturn, 1)]
def tm_18 : tkM := (1, 1, 0, 0, tc_18) -- TickPlans$Net.isGift(I)Z
def te_18 : tkE := (⟨"TickPlans$Net", "isGift", "(I)Z"⟩, prog_3_method_9_code, 2, (some .boolean), false, 1, tm_18)
def tc_19 : tkT := [(0, .aload_n 0, 1), (1, .getfield 9, 3), (4, .iload_n 1, 1), (5, .iaload, 1), (6, .ireturn, 1)]
def tm_19 : tkM := (1, 0, 0, 0, tc_19) -- TickPlans$Net.linkFrom(I)I
def te_19 : tkE := (⟨"TickPlans$Net", "linkFrom", "(I)I"⟩, prog_3_method_10_code, 2, (some .int), false, 1, tm_19)
def tc_20 : tkT := [(0, .aload_n 0, 1), (1, .getfield 15, 3), (4, .iload_n 1, 1), (5, .iaload, 1), (6, .ireturn, 1)]
def tm_20 : tkM := (1, 0, 0, 0, tc_20) -- TickPlans$Net.linkTo(I)I
def te_20 : tkE := (⟨"TickPlans$Net", "linkTo", "(I)I"⟩, prog_3_method_11_code, 2, (some .int), false, 1, tm_20)
def tc_21 : tkT := [(0, .aload_n 0, 1), (1, .getfield 18, 3), (4, .iload_n 1, 1), (5, .iaload, 1), (6, .ireturn, 1)]
def tm_21 : tkM := (1, 0, 0, 0, tc_21) -- TickPlans$Net.linkLow(I)I
def te_21 : tkE := (⟨"TickPlans$Net", "linkLow", "(I)I"⟩, prog_3_method_12_code, 2, (some .int), false, 1, tm_21)
def tc_22 : tkT := [(0, .aload_n 0, 1), (1, .getfield 21, 3), (4, .iload_n 1, 1), (5, .iaload, 1), (6, .ireturn, 1)]
def tm_22 : tkM := (1, 0, 0, 0, tc_22) -- TickPlans$Net.linkHigh(I)I
def te_22 : tkE := (⟨"TickPlans$Net", "linkHigh", "(I)I"⟩, prog_3_method_13_code, 2, (some .int), false, 1, tm_22)
def tc_23 : tkT := [(0, .aload_n 0, 1), (1, .getfield 9, 3), (4, .aload_n 0, 1), (5, .getfield 27, 3), (8, .iload_n 1, 1), (9, .iaload, 1), (10, .iaload, 1), (11, .ireturn, 1)]
def tm_23 : tkM := (1, 0, 0, 0, tc_23) -- TickPlans$Net.giftFrom(I)I
def te_23 : tkE := (⟨"TickPlans$Net", "giftFrom", "(I)I"⟩, prog_3_method_14_code, 2, (some .int), false, 1, tm_23)
def tc_24 : tkT := [(0, .aload_n 0, 1), (1, .getfield 15, 3), (4, .aload_n 0, 1), (5, .getfield 27, 3), (8, .iload_n 1, 1), (9, .iaload, 1), (10, .iaload, 1), (11, .ireturn, 1)]
def tm_24 : tkM := (1, 0, 0, 0, tc_24) -- TickPlans$Net.giftTo(I)I
def te_24 : tkE := (⟨"TickPlans$Net", "giftTo", "(I)I"⟩, prog_3_method_15_code, 2, (some .int), false, 1, tm_24)
def tc_25 : tkT := [(0, .aload_n 0, 1), (1, .getfield 18, 3), (4, .aload_n 0, 1), (5, .getfield 27, 3), (8, .iload_n 1, 1), (9, .iaload, 1), (10, .iaload, 1), (11, .ireturn, 1)]
def tm_25 : tkM := (1, 0, 0, 0, tc_25) -- TickPlans$Net.giftLow(I)I
def te_25 : tkE := (⟨"TickPlans$Net", "giftLow", "(I)I"⟩, prog_3_method_16_code, 2, (some .int), false, 1, tm_25)
def tc_26 : tkT := [(0, .aload_n 0, 1), (1, .getfield 21, 3), (4, .aload_n 0, 1), (5, .getfield 27, 3), (8, .iload_n 1, 1), (9, .iaload, 1), (10, .iaload, 1), (11, .ireturn, 1)]
def tm_26 : tkM := (1, 0, 0, 0, tc_26) -- TickPlans$Net.giftHigh(I)I
def te_26 : tkE := (⟨"TickPlans$Net", "giftHigh", "(I)I"⟩, prog_3_method_17_code, 2, (some .int), false, 1, tm_26)
def tc_27 : tkT := [(0, .iload_n 2, 1), (1, .iload_n 1, 1), (2, .ishr, 1), (3, .iconst 1, 1), (4, .iand, 1), (5, .iconst 1, 1), (6, .if_icmp .ne 11, 3), (9, .aload_n 0, 1), (10, .iload_n 1, 1), (11, .invokevirtual 40, 3), (14, .goto 8, 3), (17, .aload_n 0, 1), (18, .iload_n 1, 1), (19, .invokevirtual 44, 3), (22, .ireturn, 1)]
def tm_27 : tkM := (1, 0, 1, 21, tc_27) -- TickPlans$Net.chosenLength(II)I
def te_27 : tkE := (⟨"TickPlans$Net", "chosenLength", "(II)I"⟩, prog_3_method_18_code, 3, (some .int), false, 2, tm_27)
def tc_28 : tkT := [(0, .iconst 0, 1), (1, .istore_n 2, 1), (2, .iload_n 2, 1), (3, .aload_n 0, 1), (4, .getfield 37, 3), (7, .if_icmp .ge 26, 3), (10, .aload_n 0, 1), (11, .getfield 15, 3), (14, .aload_n 0, 1), (15, .getfield 27, 3), (18, .iload_n 2, 1), (19, .iaload, 1), (20, .iaload, 1), (21, .iload_n 1, 1), (22, .if_icmp .ne 5, 3), (25, .iload_n 2, 1), (26, .ireturn, 1), (27, .iinc 2 1, 3), (30, .goto (-28), 3), (33, .bipush (-9), 2), (35, .ireturn, 1)]
def tm_28 : tkM := (1, 0, 0, 0, tc_28) -- TickPlans$Net.giftInto(I)I
def te_28 : tkE := (⟨"TickPlans$Net", "giftInto", "(I)I"⟩, prog_3_method_19_code, 3, (some .int), false, 1, tm_28)
def tc_29 : tkT := [(0, .aload_n 0, 1), (1, .iload_n 1, 1), (2, .invokevirtual 47, 3), (5, .bipush (-9), 2), (7, .if_icmp .eq 7, 3), (10, .iconst 1, 1), (11, .goto 4, 3), (14, .iconst 0, 1), (15, .ireturn, 1)]
def tm_29 : tkM := (1, 1, 1, 22, tc_29) -- TickPlans$Net.isGiven(I)Z
def te_29 : tkE := (⟨"TickPlans$Net", "isGiven", "(I)Z"⟩, prog_3_method_20_code, 2, (some .boolean), false, 1, tm_29)
def tc_30 : tkT := [(0, .iload_n 1, 1), (1, .iconst 1, 1), (2, .if_icmp .lt 9, 3), (5, .iload_n 1, 1), (6, .bipush 16, 2), (8, .if_icmp .le 6, 3), (11, .bipush (-12), 2), (13, .ireturn, 1), (14, .aload_n 0, 1), (15, .getfield 30, 3), (18, .iload_n 1, 1), (19, .iadd, 1), (20, .bipush 16, 2), (22, .if_icmp .le 6, 3), (25, .bipush (-14), 2), (27, .ireturn, 1), (28, .aload_n 0, 1), (29, .dup, 1), (30, .getfield 30, 3), (33, .iload_n 1, 1), (34, .iadd, 1), (35, .putfield 30, 3), (38, .aload_n 0, 1), (39, .getfield 30, 3), (42, .ireturn, 1)]
def tm_30 : tkM := (1, 0, 0, 0, tc_30) -- TickPlans$Net.addMoments(I)I
def te_30 : tkE := (⟨"TickPlans$Net", "addMoments", "(I)I"⟩, prog_3_method_21_code, 2, (some .int), false, 1, tm_30)
def tc_31 : tkT := [(0, .aload_n 0, 1), (1, .iload_n 1, 1), (2, .iload_n 2, 1), (3, .iload_n 3, 1), (4, .iload 4, 2), (6, .ldc 50, 2), (8, .invokevirtual 51, 3), (11, .istore 5, 2), (13, .iload 5, 2), (15, .ifCond .eq 6, 3), (18, .iload 5, 2), (20, .ireturn, 1), (21, .aload_n 0, 1), (22, .getfield 34, 3), (25, .bipush 60, 2), (27, .if_icmp .lt 6, 3), (30, .bipush (-14), 2), (32, .ireturn, 1), (33, .aload_n 0, 1), (34, .iload_n 1, 1), (35, .iload_n 2, 1), (36, .iload_n 3, 1), (37, .iload 4, 2), (39, .bipush (-9), 2), (41, .invokevirtual 55, 3), (44, .ireturn, 1)]
def tm_31 : tkM := (1, 0, 2, 47, tc_31) -- TickPlans$Net.addWish(IIII)I
def te_31 : tkE := (⟨"TickPlans$Net", "addWish", "(IIII)I"⟩, prog_3_method_22_code, 6, (some .int), false, 4, tm_31)
def tc_32 : tkT := [(0, .aload_n 0, 1), (1, .iload_n 1, 1), (2, .iload_n 2, 1), (3, .iload_n 3, 1), (4, .iload 4, 2), (6, .iconst 1, 1), (7, .invokevirtual 51, 3), (10, .istore 5, 2), (12, .iload 5, 2), (14, .ifCond .eq 6, 3), (17, .iload 5, 2), (19, .ireturn, 1), (20, .aload_n 0, 1), (21, .iload_n 2, 1), (22, .invokevirtual 58, 3), (25, .ifCond .ne 12, 3), (28, .aload_n 0, 1), (29, .iload_n 1, 1), (30, .iload_n 2, 1), (31, .invokevirtual 62, 3), (34, .ifCond .eq 6, 3), (37, .bipush (-13), 2), (39, .ireturn, 1), (40, .aload_n 0, 1), (41, .getfield 34, 3), (44, .bipush 60, 2), (46, .if_icmp .ge 12, 3), (49, .aload_n 0, 1), (50, .getfield 37, 3), (53, .bipush 6, 2), (55, .if_icmp .lt 6, 3), (58, .bipush (-14), 2), (60, .ireturn, 1), (61, .aload_n 0, 1), (62, .getfield 27, 3), (65, .aload_n 0, 1), (66, .getfield 37, 3), (69, .aload_n 0, 1), (70, .getfield 34, 3), (73, .iastore, 1), (74, .aload_n 0, 1), (75, .dup, 1), (76, .getfield 37, 3), (79, .iconst 1, 1), (80, .iadd, 1), (81, .putfield 37, 3), (84, .aload_n 0, 1), (85, .iload_n 1, 1), (86, .iload_n 2, 1), (87, .iload_n 3, 1), (88, .iload 4, 2), (90, .aload_n 0, 1), (91, .getfield 37, 3), (94, .iconst 1, 1), (95, .isub, 1), (96, .invokevirtual 55, 3), (99, .ireturn, 1)]
def tm_32 : tkM := (1, 0, 2, 47, tc_32) -- TickPlans$Net.addGift(IIII)I
def te_32 : tkE := (⟨"TickPlans$Net", "addGift", "(IIII)I"⟩, prog_3_method_23_code, 6, (some .int), false, 4, tm_32)
def tc_33 : tkT := [(0, .aload_n 0, 1), (1, .getfield 34, 3), (4, .ifCond .ne 6, 3), (7, .bipush (-13), 2), (9, .ireturn, 1), (10, .aload_n 0, 1), (11, .dup, 1), (12, .getfield 34, 3), (15, .iconst 1, 1), (16, .isub, 1), (17, .putfield 34, 3), (20, .aload_n 0, 1), (21, .aload_n 0, 1), (22, .getfield 34, 3), (25, .invokevirtual 66, 3), (28, .ifCond .eq 13, 3), (31, .aload_n 0, 1), (32, .dup, 1), (33, .getfield 37, 3), (36, .iconst 1, 1), (37, .isub, 1), (38, .putfield 37, 3), (41, .aload_n 0, 1), (42, .getfield 34, 3), (45, .ireturn, 1)]
def tm_33 : tkM := (1, 0, 1, 21, tc_33) -- TickPlans$Net.dropLastLink()I
def te_33 : tkE := (⟨"TickPlans$Net", "dropLastLink", "()I"⟩, prog_3_method_24_code, 1, (some .int), false, 0, tm_33)
def tc_34 : tkT := [(0, .aload_n 0, 1), (1, .iload_n 1, 1), (2, .invokevirtual 69, 3), (5, .ifCond .ne 6, 3), (8, .bipush (-11), 2), (10, .ireturn, 1), (11, .iload_n 2, 1), (12, .iload_n 3, 1), (13, .aload_n 0, 1), (14, .iload_n 1, 1), (15, .invokevirtual 66, 3), (18, .ifCond .eq 7, 3), (21, .iconst 1, 1), (22, .goto 5, 3), (25, .ldc 50, 2), (27, .invokestatic 72, 3), (30, .ifCond .ne 6, 3), (33, .bipush (-12), 2), (35, .ireturn, 1), (36, .aload_n 0, 1), (37, .getfield 18, 3), (40, .iload_n 1, 1), (41, .iload_n 2, 1), (42, .iastore, 1), (43, .aload_n 0, 1), (44, .getfield 21, 3), (47, .iload_n 1, 1), (48, .iload_n 3, 1), (49, .iastore, 1), (50, .iconst 1, 1), (51, .ireturn, 1)]
def tm_34 : tkM := (1, 0, 1, 22, tc_34) -- TickPlans$Net.setBounds(III)I
def te_34 : tkE := (⟨"TickPlans$Net", "setBounds", "(III)I"⟩, prog_3_method_25_code, 4, (some .int), false, 3, tm_34)
def tc_35 : tkT := [(0, .aload_n 0, 1), (1, .iload_n 1, 1), (2, .invokevirtual 69, 3), (5, .ifCond .ne 6, 3), (8, .bipush (-11), 2), (10, .ireturn, 1), (11, .iload_n 2, 1), (12, .tableswitch 71 0 4 #[36, 43, 50, 57, 64], 36), (48, .aload_n 0, 1), (49, .getfield 9, 3), (52, .iload_n 1, 1), (53, .iaload, 1), (54, .ireturn, 1), (55, .aload_n 0, 1), (56, .getfield 15, 3), (59, .iload_n 1, 1), (60, .iaload, 1), (61, .ireturn, 1), (62, .aload_n 0, 1), (63, .getfield 18, 3), (66, .iload_n 1, 1), (67, .iaload, 1), (68, .ireturn, 1), (69, .aload_n 0, 1), (70, .getfield 21, 3), (73, .iload_n 1, 1), (74, .iaload, 1), (75, .ireturn, 1), (76, .aload_n 0, 1), (77, .getfield 24, 3), (80, .iload_n 1, 1), (81, .iaload, 1), (82, .ireturn, 1), (83, .bipush (-12), 2), (85, .ireturn, 1)]
def tm_35 : tkM := (1, 0, 1, 21, tc_35) -- TickPlans$Net.partOfLink(II)I
def te_35 : tkE := (⟨"TickPlans$Net", "partOfLink", "(II)I"⟩, prog_3_method_26_code, 3, (some .int), false, 2, tm_35)
def tc_36 : tkT := [(0, .aload_n 0, 1), (1, .getfield 9, 3), (4, .aload_n 0, 1), (5, .getfield 34, 3), (8, .iload_n 1, 1), (9, .iastore, 1), (10, .aload_n 0, 1), (11, .getfield 15, 3), (14, .aload_n 0, 1), (15, .getfield 34, 3), (18, .iload_n 2, 1), (19, .iastore, 1), (20, .aload_n 0, 1), (21, .getfield 18, 3), (24, .aload_n 0, 1), (25, .getfield 34, 3), (28, .iload_n 3, 1), (29, .iastore, 1), (30, .aload_n 0, 1), (31, .getfield 21, 3), (34, .aload_n 0, 1), (35, .getfield 34, 3), (38, .iload 4, 2), (40, .iastore, 1), (41, .aload_n 0, 1), (42, .getfield 24, 3), (45, .aload_n 0, 1), (46, .getfield 34, 3), (49, .iload 5, 2), (51, .iastore, 1), (52, .aload_n 0, 1), (53, .dup, 1), (54, .getfield 34, 3), (57, .iconst 1, 1), (58, .iadd, 1), (59, .putfield 34, 3), (62, .aload_n 0, 1), (63, .getfield 34, 3), (66, .iconst 1, 1), (67, .isub, 1), (68, .ireturn, 1)]
def tm_36 : tkM := (1, 0, 0, 0, tc_36) -- TickPlans$Net.append(IIIII)I
def te_36 : tkE := (⟨"TickPlans$Net", "append", "(IIIII)I"⟩, prog_3_method_27_code, 6, (some .int), false, 5, tm_36)
def tc_37 : tkT := [(0, .aload_n 0, 1), (1, .iload_n 1, 1), (2, .invokevirtual 76, 3), (5, .ifCond .eq 11, 3), (8, .aload_n 0, 1), (9, .iload_n 2, 1), (10, .invokevirtual 76, 3), (13, .ifCond .ne 6, 3), (16, .bipush (-11), 2), (18, .ireturn, 1), (19, .iload_n 1, 1), (20, .iload_n 2, 1), (21, .if_icmp .ne 6, 3), (24, .bipush (-13), 2), (26, .ireturn, 1), (27, .iload_n 3, 1), (28, .iload 4, 2), (30, .iload 5, 2), (32, .invokestatic 72, 3), (35, .ifCond .eq 7, 3), (38, .iconst 0, 1), (39, .goto 5, 3), (42, .bipush (-12), 2), (44, .ireturn, 1)]
def tm_37 : tkM := (1, 0, 1, 22, tc_37) -- TickPlans$Net.refuseLink(IIIII)I
def te_37 : tkE := (⟨"TickPlans$Net", "refuseLink", "(IIIII)I"⟩, prog_3_method_28_code, 6, (some .int), false, 5, tm_37)
def tc_38 : tkT := [(0, .iload_n 0, 1), (1, .iload_n 2, 1), (2, .if_icmp .lt 18, 3), (5, .iload_n 0, 1), (6, .iload_n 1, 1), (7, .if_icmp .gt 13, 3), (10, .iload_n 1, 1), (11, .ldc 79, 2), (13, .if_icmp .gt 7, 3), (16, .iconst 1, 1), (17, .goto 4, 3), (20, .iconst 0, 1), (21, .ireturn, 1)]
def tm_38 : tkM := (1, 1, 0, 0, tc_38) -- TickPlans$Net.fits(III)Z
def te_38 : tkE := (⟨"TickPlans$Net", "fits", "(III)Z"⟩, prog_3_method_29_code, 3, (some .boolean), true, 3, tm_38)
def tc_39 : tkT := [(0, .iload_n 1, 1), (1, .istore_n 3, 1), (2, .iconst 0, 1), (3, .istore 4, 2), (5, .iload 4, 2), (7, .bipush 6, 2), (9, .if_icmp .gt 39, 3), (12, .iload_n 3, 1), (13, .iload_n 2, 1), (14, .if_icmp .ne 5, 3), (17, .iconst 1, 1), (18, .ireturn, 1), (19, .aload_n 0, 1), (20, .iload_n 3, 1), (21, .invokevirtual 47, 3), (24, .istore 5, 2), (26, .iload 5, 2), (28, .bipush (-9), 2), (30, .if_icmp .ne 5, 3), (33, .iconst 0, 1), (34, .ireturn, 1), (35, .aload_n 0, 1), (36, .iload 5, 2), (38, .invokevirtual 80, 3), (41, .istore_n 3, 1), (42, .iinc 4 1, 3), (45, .goto (-40), 3), (48, .iconst 1, 1), (49, .ireturn, 1)]
def tm_39 : tkM := (1, 1, 1, 22, tc_39) -- TickPlans$Net.comesFrom(II)Z
def te_39 : tkE := (⟨"TickPlans$Net", "comesFrom", "(II)Z"⟩, prog_3_method_30_code, 6, (some .boolean), false, 2, tm_39)
def tc_40 : tkT := [(0, .aload_n 0, 1), (1, .getfield 9, 3), (4, .bipush (-9), 2), (6, .invokestatic 15, 3), (9, .aload_n 0, 1), (10, .iconst 1, 1), (11, .putfield 21, 3), (14, .aload_n 0, 1), (15, .iconst 0, 1), (16, .putfield 25, 3), (19, .aload_n 0, 1), (20, .iconst 0, 1), (21, .putfield 29, 3), (24, .return_, 1)]
def tm_40 : tkM := (2, 3, 1, 23, tc_40) -- TickPlans$Run.begin()V
def te_40 : tkE := (⟨"TickPlans$Run", "begin", "()V"⟩, prog_4_method_2_code, 1, none, false, 0, tm_40)
def tc_41 : tkT := [(0, .aload_n 0, 1), (1, .iconst 0, 1), (2, .putfield 21, 3), (5, .return_, 1)]
def tm_41 : tkM := (2, 3, 0, 0, tc_41) -- TickPlans$Run.end()V
def te_41 : tkE := (⟨"TickPlans$Run", "end", "()V"⟩, prog_4_method_3_code, 1, none, false, 0, tm_41)
def tc_42 : tkT := [(0, .aload_n 0, 1), (1, .getfield 21, 3), (4, .ireturn, 1)]
def tm_42 : tkM := (2, 1, 0, 0, tc_42) -- TickPlans$Run.isOn()Z
def te_42 : tkE := (⟨"TickPlans$Run", "isOn", "()Z"⟩, prog_4_method_4_code, 1, (some .boolean), false, 0, tm_42)
def tc_43 : tkT := [(0, .aload_n 0, 1), (1, .getfield 25, 3), (4, .ireturn, 1)]
def tm_43 : tkM := (2, 0, 0, 0, tc_43) -- TickPlans$Run.currentTick()I
def te_43 : tkE := (⟨"TickPlans$Run", "currentTick", "()I"⟩, prog_4_method_5_code, 1, (some .int), false, 0, tm_43)
def tc_44 : tkT := [(0, .aload_n 0, 1), (1, .getfield 29, 3), (4, .ireturn, 1)]
def tm_44 : tkM := (2, 0, 0, 0, tc_44) -- TickPlans$Run.cameCount()I
def te_44 : tkE := (⟨"TickPlans$Run", "cameCount", "()I"⟩, prog_4_method_6_code, 1, (some .int), false, 0, tm_44)
def tc_45 : tkT := [(0, .aload_n 0, 1), (1, .getfield 9, 3), (4, .iload_n 1, 1), (5, .iaload, 1), (6, .ireturn, 1)]
def tm_45 : tkM := (2, 0, 0, 0, tc_45) -- TickPlans$Run.tickOf(I)I
def te_45 : tkE := (⟨"TickPlans$Run", "tickOf", "(I)I"⟩, prog_4_method_7_code, 2, (some .int), false, 1, tm_45)
def tc_46 : tkT := [(0, .aload_n 0, 1), (1, .getfield 9, 3), (4, .iload_n 1, 1), (5, .iaload, 1), (6, .bipush (-9), 2), (8, .if_icmp .eq 7, 3), (11, .iconst 1, 1), (12, .goto 4, 3), (15, .iconst 0, 1), (16, .ireturn, 1)]
def tm_46 : tkM := (2, 1, 0, 0, tc_46) -- TickPlans$Run.hasCome(I)Z
def te_46 : tkE := (⟨"TickPlans$Run", "hasCome", "(I)Z"⟩, prog_4_method_8_code, 2, (some .boolean), false, 1, tm_46)
def tc_47 : tkT := [(0, .aload_n 0, 1), (1, .iload_n 2, 1), (2, .invokevirtual 32, 3), (5, .ifCond .ne 15, 3), (8, .aload_n 1, 1), (9, .iload_n 2, 1), (10, .invokevirtual 36, 3), (13, .ifCond .ne 7, 3), (16, .iconst 1, 1), (17, .goto 4, 3), (20, .iconst 0, 1), (21, .ireturn, 1)]
def tm_47 : tkM := (2, 1, 2, 43, tc_47) -- TickPlans$Run.isOpen(LTickPlans$Net;I)Z
def te_47 : tkE := (⟨"TickPlans$Run", "isOpen", "(LTickPlans$Net;I)Z"⟩, prog_4_method_9_code, 3, (some .boolean), false, 2, tm_47)
def tc_48 : tkT := [(0, .aload_n 0, 1), (1, .getfield 9, 3), (4, .iload_n 1, 1), (5, .aload_n 0, 1), (6, .getfield 25, 3), (9, .iastore, 1), (10, .aload_n 0, 1), (11, .dup, 1), (12, .getfield 29, 3), (15, .iconst 1, 1), (16, .iadd, 1), (17, .putfield 29, 3), (20, .return_, 1)]
def tm_48 : tkM := (2, 3, 0, 0, tc_48) -- TickPlans$Run.letCome(I)V
def te_48 : tkE := (⟨"TickPlans$Run", "letCome", "(I)V"⟩, prog_4_method_10_code, 2, none, false, 1, tm_48)
def tc_49 : tkT := [(0, .aload_n 1, 1), (1, .iload_n 2, 1), (2, .invokevirtual 41, 3), (5, .istore_n 3, 1), (6, .iload_n 3, 1), (7, .bipush (-9), 2), (9, .if_icmp .eq 23, 3), (12, .aload_n 0, 1), (13, .iload_n 2, 1), (14, .invokevirtual 32, 3), (17, .ifCond .ne 15, 3), (20, .aload_n 0, 1), (21, .aload_n 1, 1), (22, .iload_n 3, 1), (23, .invokevirtual 45, 3), (26, .invokevirtual 32, 3), (29, .ifCond .ne 5, 3), (32, .iconst 0, 1), (33, .ireturn, 1), (34, .aload_n 0, 1), (35, .getfield 25, 3), (38, .aload_n 0, 1), (39, .getfield 9, 3), (42, .aload_n 1, 1), (43, .iload_n 3, 1), (44, .invokevirtual 45, 3), (47, .iaload, 1), (48, .isub, 1), (49, .istore 4, 2), (51, .iload 4, 2), (53, .aload_n 1, 1), (54, .iload_n 3, 1), (55, .invokevirtual 48, 3), (58, .if_icmp .lt 17, 3), (61, .iload 4, 2), (63, .aload_n 1, 1), (64, .iload_n 3, 1), (65, .invokevirtual 51, 3), (68, .if_icmp .gt 7, 3), (71, .iconst 1, 1), (72, .goto 4, 3), (75, .iconst 0, 1), (76, .ireturn, 1)]
def tm_49 : tkM := (2, 1, 1, 22, tc_49) -- TickPlans$Run.canBeGiven(LTickPlans$Net;I)Z
def te_49 : tkE := (⟨"TickPlans$Run", "canBeGiven", "(LTickPlans$Net;I)Z"⟩, prog_4_method_11_code, 5, (some .boolean), false, 2, tm_49)
def tc_50 : tkT := [(0, .iconst 0, 1), (1, .istore_n 2, 1), (2, .iload_n 2, 1), (3, .aload_n 1, 1), (4, .invokevirtual 54, 3), (7, .if_icmp .ge 43, 3), (10, .aload_n 0, 1), (11, .aload_n 1, 1), (12, .iload_n 2, 1), (13, .invokevirtual 58, 3), (16, .ifCond .eq 28, 3), (19, .aload_n 0, 1), (20, .getfield 25, 3), (23, .aload_n 0, 1), (24, .getfield 9, 3), (27, .aload_n 1, 1), (28, .iload_n 2, 1), (29, .invokevirtual 45, 3), (32, .iaload, 1), (33, .isub, 1), (34, .aload_n 1, 1), (35, .iload_n 2, 1), (36, .invokevirtual 51, 3), (39, .if_icmp .le 5, 3), (42, .iconst 1, 1), (43, .ireturn, 1), (44, .iinc 2 1, 3), (47, .goto (-45), 3), (50, .iconst 0, 1), (51, .ireturn, 1)]
def tm_50 : tkM := (2, 1, 2, 43, tc_50) -- TickPlans$Run.someoneIsLate(LTickPlans$Net;)Z
def te_50 : tkE := (⟨"TickPlans$Run", "someoneIsLate", "(LTickPlans$Net;)Z"⟩, prog_4_method_12_code, 3, (some .boolean), false, 1, tm_50)
def tc_51 : tkT := [(0, .aload_n 0, 1), (1, .aload_n 1, 1), (2, .iload_n 2, 1), (3, .invokevirtual 45, 3), (6, .invokevirtual 32, 3), (9, .ifCond .eq 19, 3), (12, .aload_n 0, 1), (13, .aload_n 1, 1), (14, .iload_n 2, 1), (15, .invokevirtual 62, 3), (18, .invokevirtual 32, 3), (21, .ifCond .ne 7, 3), (24, .iconst 1, 1), (25, .goto 4, 3), (28, .iconst 0, 1), (29, .ireturn, 1)]
def tm_51 : tkM := (2, 1, 1, 21, tc_51) -- TickPlans$Run.isUnderWay(LTickPlans$Net;I)Z
def te_51 : tkE := (⟨"TickPlans$Run", "isUnderWay", "(LTickPlans$Net;I)Z"⟩, prog_4_method_13_code, 3, (some .boolean), false, 2, tm_51)
def tc_52 : tkT := [(0, .aload_n 0, 1), (1, .aload_n 1, 1), (2, .aload_n 2, 1), (3, .iload_n 3, 1), (4, .invokevirtual 65, 3), (7, .aload_n 0, 1), (8, .getfield 25, 3), (11, .i2l, 1), (12, .lcmp, 1), (13, .ifCond .ne 7, 3), (16, .iconst 1, 1), (17, .goto 4, 3), (20, .iconst 0, 1), (21, .ireturn, 1)]
def tm_52 : tkM := (2, 1, 4, 100, tc_52) -- TickPlans$Run.canComeNow(LTickPlans$Net;LTickPlans$Waits;I)Z
def te_52 : tkE := (⟨"TickPlans$Run", "canComeNow", "(LTickPlans$Net;LTickPlans$Waits;I)Z"⟩, prog_4_method_14_code, 4, (some .boolean), false, 3, tm_52)
def tc_53 : tkT := [(0, .aload_n 0, 1), (1, .getfield 29, 3), (4, .istore_n 3, 1), (5, .iconst 0, 1), (6, .istore 4, 2), (8, .iload 4, 2), (10, .bipush 16, 2), (12, .if_icmp .ge 33, 3), (15, .aload_n 0, 1), (16, .aload_n 1, 1), (17, .aload_n 2, 1), (18, .invokevirtual 69, 3), (21, .istore 5, 2), (23, .iload 5, 2), (25, .bipush (-9), 2), (27, .if_icmp .ne 6, 3), (30, .goto 15, 3), (33, .aload_n 0, 1), (34, .iload 5, 2), (36, .invokevirtual 73, 3), (39, .iinc 4 1, 3), (42, .goto (-34), 3), (45, .aload_n 0, 1), (46, .dup, 1), (47, .getfield 25, 3), (50, .iconst 1, 1), (51, .iadd, 1), (52, .putfield 25, 3), (55, .aload_n 0, 1), (56, .getfield 29, 3), (59, .iload_n 3, 1), (60, .isub, 1), (61, .ireturn, 1)]
def tm_53 : tkM := (2, 0, 5, 123, tc_53) -- TickPlans$Run.letAllComeThenTick(LTickPlans$Net;LTickPlans$Waits;)I
def te_53 : tkE := (⟨"TickPlans$Run", "letAllComeThenTick", "(LTickPlans$Net;LTickPlans$Waits;)I"⟩, prog_4_method_15_code, 6, (some .int), false, 2, tm_53)
def tc_54 : tkT := [(0, .iconst 0, 1), (1, .istore_n 3, 1), (2, .iload_n 3, 1), (3, .aload_n 1, 1), (4, .invokevirtual 77, 3), (7, .if_icmp .ge 36, 3), (10, .aload_n 0, 1), (11, .aload_n 1, 1), (12, .iload_n 3, 1), (13, .invokevirtual 80, 3), (16, .ifCond .eq 21, 3), (19, .aload_n 0, 1), (20, .aload_n 1, 1), (21, .aload_n 2, 1), (22, .iload_n 3, 1), (23, .invokevirtual 65, 3), (26, .aload_n 0, 1), (27, .getfield 25, 3), (30, .i2l, 1), (31, .lcmp, 1), (32, .ifCond .ne 5, 3), (35, .iload_n 3, 1), (36, .ireturn, 1), (37, .iinc 3 1, 3), (40, .goto (-38), 3), (43, .bipush (-9), 2), (45, .ireturn, 1)]
def tm_54 : tkM := (2, 0, 4, 100, tc_54) -- TickPlans$Run.leastThatCanCome(LTickPlans$Net;LTickPlans$Waits;)I
def te_54 : tkE := (⟨"TickPlans$Run", "leastThatCanCome", "(LTickPlans$Net;LTickPlans$Waits;)I"⟩, prog_4_method_16_code, 4, (some .int), false, 2, tm_54)
def tc_55 : tkT := [(0, .aload_n 0, 1), (1, .getfield 25, 3), (4, .i2l, 1), (5, .iload_n 3, 1), (6, .i2l, 1), (7, .ladd, 1), (8, .lstore 4, 2), (10, .iconst 0, 1), (11, .istore 6, 2), (13, .iload 6, 2), (15, .aload_n 1, 1), (16, .invokevirtual 77, 3), (19, .if_icmp .ge 34, 3), (22, .aload_n 0, 1), (23, .aload_n 1, 1), (24, .iload 6, 2), (26, .invokevirtual 80, 3), (29, .ifCond .eq 18, 3), (32, .lload 4, 2), (34, .aload_n 0, 1), (35, .aload_n 1, 1), (36, .aload_n 2, 1), (37, .iload 6, 2), (39, .invokevirtual 65, 3), (42, .invokestatic 83, 3), (45, .lstore 4, 2), (47, .iinc 6 1, 3), (50, .goto (-37), 3), (53, .iconst 0, 1), (54, .istore 6, 2), (56, .iload 6, 2), (58, .aload_n 1, 1), (59, .invokevirtual 54, 3), (62, .if_icmp .ge 46, 3), (65, .aload_n 0, 1), (66, .aload_n 1, 1), (67, .iload 6, 2), (69, .invokevirtual 58, 3), (72, .ifCond .eq 30, 3), (75, .lload 4, 2), (77, .aload_n 0, 1), (78, .getfield 9, 3), (81, .aload_n 1, 1), (82, .iload 6, 2), (84, .invokevirtual 45, 3), (87, .iaload, 1), (88, .i2l, 1), (89, .aload_n 1, 1), (90, .iload 6, 2), (92, .invokevirtual 51, 3), (95, .i2l, 1), (96, .ladd, 1), (97, .invokestatic 83, 3), (100, .lstore 4, 2), (102, .iinc 6 1, 3), (105, .goto (-49), 3), (108, .lload 4, 2), (110, .aload_n 0, 1), (111, .getfield 25, 3), (114, .i2l, 1), (115, .lsub, 1), (116, .l2i, 1), (117, .istore 6, 2), (119, .aload_n 0, 1), (120, .dup, 1), (121, .getfield 25, 3), (124, .iload 6, 2), (126, .iadd, 1), (127, .putfield 25, 3), (130, .iload 6, 2), (132, .ireturn, 1)]
def tm_55 : tkM := (2, 0, 4, 100, tc_55) -- TickPlans$Run.passTicks(LTickPlans$Net;LTickPlans$Waits;I)I
def te_55 : tkE := (⟨"TickPlans$Run", "passTicks", "(LTickPlans$Net;LTickPlans$Waits;I)I"⟩, prog_4_method_17_code, 7, (some .int), false, 3, tm_55)
def tc_56 : tkT := [(0, .aload_n 0, 1), (1, .aload_n 1, 1), (2, .aload_n 2, 1), (3, .iload_n 3, 1), (4, .invokevirtual 89, 3), (7, .lstore 4, 2), (9, .aload_n 0, 1), (10, .aload_n 1, 1), (11, .aload_n 2, 1), (12, .iload_n 3, 1), (13, .invokevirtual 92, 3), (16, .lstore 6, 2), (18, .aload_n 0, 1), (19, .getfield 25, 3), (22, .i2l, 1), (23, .lload 4, 2), (25, .lload 6, 2), (27, .invokestatic 95, 3), (30, .invokestatic 95, 3), (33, .lstore 8, 2), (35, .lload 8, 2), (37, .aload_n 0, 1), (38, .aload_n 1, 1), (39, .aload_n 2, 1), (40, .iload_n 3, 1), (41, .invokevirtual 98, 3), (44, .lcmp, 1), (45, .ifCond .gt 8, 3), (48, .lload 8, 2), (50, .goto 6, 3), (53, .ldc2_w 101, 3), (56, .lreturn, 1)]
def tm_56 : tkM := (2, 2, 3, 71, tc_56) -- TickPlans$Run.firstTick(LTickPlans$Net;LTickPlans$Waits;I)J
def te_56 : tkE := (⟨"TickPlans$Run", "firstTick", "(LTickPlans$Net;LTickPlans$Waits;I)J"⟩, prog_4_method_18_code, 10, (some .long), false, 3, tm_56)
def tc_57 : tkT := [(0, .lconst 0, 1), (1, .lstore 4, 2), (3, .iconst 0, 1), (4, .istore 6, 2), (6, .iload 6, 2), (8, .aload_n 1, 1), (9, .invokevirtual 77, 3), (12, .if_icmp .ge 77, 3), (15, .aload_n 2, 1), (16, .iload_n 3, 1), (17, .iload 6, 2), (19, .invokevirtual 103, 3), (22, .lstore 7, 2), (24, .iload 6, 2), (26, .iload_n 3, 1), (27, .if_icmp .eq 56, 3), (30, .lload 7, 2), (32, .ldc2_w 101, 3), (35, .lcmp, 1), (36, .ifCond .ne 6, 3), (39, .goto 44, 3), (42, .aload_n 0, 1), (43, .iload 6, 2), (45, .invokevirtual 32, 3), (48, .ifCond .eq 24, 3), (51, .lload 4, 2), (53, .aload_n 0, 1), (54, .getfield 9, 3), (57, .iload 6, 2), (59, .iaload, 1), (60, .i2l, 1), (61, .lload 7, 2), (63, .lsub, 1), (64, .invokestatic 95, 3), (67, .lstore 4, 2), (69, .goto 14, 3), (72, .lload 7, 2), (74, .lconst 0, 1), (75, .lcmp, 1), (76, .ifCond .ge 7, 3), (79, .ldc2_w 101, 3), (82, .lreturn, 1), (83, .iinc 6 1, 3), (86, .goto (-80), 3), (89, .lload 4, 2), (91, .lreturn, 1)]
def tm_57 : tkM := (2, 2, 2, 43, tc_57) -- TickPlans$Run.earliestByEdges(LTickPlans$Net;LTickPlans$Waits;I)J
def te_57 : tkE := (⟨"TickPlans$Run", "earliestByEdges", "(LTickPlans$Net;LTickPlans$Waits;I)J"⟩, prog_4_method_19_code, 9, (some .long), false, 3, tm_57)
def tc_58 : tkT := [(0, .lconst 0, 1), (1, .lstore 4, 2), (3, .iconst 0, 1), (4, .istore 6, 2), (6, .iload 6, 2), (8, .aload_n 1, 1), (9, .invokevirtual 54, 3), (12, .if_icmp .ge 80, 3), (15, .aload_n 2, 1), (16, .iload_n 3, 1), (17, .iload 6, 2), (19, .invokevirtual 109, 3), (22, .lstore 7, 2), (24, .lload 7, 2), (26, .lconst 0, 1), (27, .lcmp, 1), (28, .ifCond .ge 58, 3), (31, .aload_n 0, 1), (32, .aload_n 1, 1), (33, .iload 6, 2), (35, .invokevirtual 62, 3), (38, .invokevirtual 32, 3), (41, .ifCond .eq 6, 3), (44, .goto 42, 3), (47, .aload_n 0, 1), (48, .aload_n 1, 1), (49, .iload 6, 2), (51, .invokevirtual 45, 3), (54, .invokevirtual 32, 3), (57, .ifCond .ne 7, 3), (60, .ldc2_w 101, 3), (63, .lreturn, 1), (64, .lload 4, 2), (66, .aload_n 0, 1), (67, .getfield 9, 3), (70, .aload_n 1, 1), (71, .iload 6, 2), (73, .invokevirtual 45, 3), (76, .iaload, 1), (77, .i2l, 1), (78, .lload 7, 2), (80, .lsub, 1), (81, .invokestatic 95, 3), (84, .lstore 4, 2), (86, .iinc 6 1, 3), (89, .goto (-83), 3), (92, .lload 4, 2), (94, .lreturn, 1)]
def tm_58 : tkM := (2, 2, 2, 43, tc_58) -- TickPlans$Run.earliestByWaits(LTickPlans$Net;LTickPlans$Waits;I)J
def te_58 : tkE := (⟨"TickPlans$Run", "earliestByWaits", "(LTickPlans$Net;LTickPlans$Waits;I)J"⟩, prog_4_method_20_code, 9, (some .long), false, 3, tm_58)
def tc_59 : tkT := [(0, .ldc2_w 101, 3), (3, .lstore 4, 2), (5, .iconst 0, 1), (6, .istore 6, 2), (8, .iload 6, 2), (10, .aload_n 1, 1), (11, .invokevirtual 77, 3), (14, .if_icmp .ge 60, 3), (17, .aload_n 2, 1), (18, .iload 6, 2), (20, .iload_n 3, 1), (21, .invokevirtual 103, 3), (24, .lstore 7, 2), (26, .iload 6, 2), (28, .iload_n 3, 1), (29, .if_icmp .eq 39, 3), (32, .aload_n 0, 1), (33, .iload 6, 2), (35, .invokevirtual 32, 3), (38, .ifCond .eq 30, 3), (41, .lload 7, 2), (43, .ldc2_w 101, 3), (46, .lcmp, 1), (47, .ifCond .eq 21, 3), (50, .lload 4, 2), (52, .aload_n 0, 1), (53, .getfield 9, 3), (56, .iload 6, 2), (58, .iaload, 1), (59, .i2l, 1), (60, .lload 7, 2), (62, .ladd, 1), (63, .invokestatic 83, 3), (66, .lstore 4, 2), (68, .iinc 6 1, 3), (71, .goto (-63), 3), (74, .lload 4, 2), (76, .lreturn, 1)]
def tm_59 : tkM := (2, 2, 2, 43, tc_59) -- TickPlans$Run.latest(LTickPlans$Net;LTickPlans$Waits;I)J
def te_59 : tkE := (⟨"TickPlans$Run", "latest", "(LTickPlans$Net;LTickPlans$Waits;I)J"⟩, prog_4_method_21_code, 9, (some .long), false, 3, tm_59)
def tc_60 : tkT := [(0, .iconst 0, 1), (1, .istore_n 2, 1), (2, .iload_n 2, 1), (3, .aload_n 1, 1), (4, .invokevirtual 112, 3), (7, .if_icmp .ge 51, 3), (10, .aload_n 0, 1), (11, .getfield 9, 3), (14, .aload_n 1, 1), (15, .iload_n 2, 1), (16, .invokevirtual 115, 3), (19, .iaload, 1), (20, .aload_n 0, 1), (21, .getfield 9, 3), (24, .aload_n 1, 1), (25, .iload_n 2, 1), (26, .invokevirtual 118, 3), (29, .iaload, 1), (30, .isub, 1), (31, .istore_n 3, 1), (32, .iload_n 3, 1), (33, .aload_n 1, 1), (34, .iload_n 2, 1), (35, .invokevirtual 121, 3), (38, .if_icmp .lt 12, 3), (41, .iload_n 3, 1), (42, .aload_n 1, 1), (43, .iload_n 2, 1), (44, .invokevirtual 124, 3), (47, .if_icmp .le 5, 3), (50, .iload_n 2, 1), (51, .ireturn, 1), (52, .iinc 2 1, 3), (55, .goto (-53), 3), (58, .bipush (-9), 2), (60, .ireturn, 1)]
def tm_60 : tkM := (2, 0, 1, 21, tc_60) -- TickPlans$Run.firstBrokenLink(LTickPlans$Net;)I
def te_60 : tkE := (⟨"TickPlans$Run", "firstBrokenLink", "(LTickPlans$Net;)I"⟩, prog_4_method_22_code, 4, (some .int), false, 1, tm_60)
def tc_61 : tkT := [(0, .iload_n 0, 1), (1, .bipush 16, 2), (3, .imul, 1), (4, .iload_n 1, 1), (5, .iadd, 1), (6, .ireturn, 1)]
def tm_61 : tkM := (7, 0, 0, 0, tc_61) -- TickPlans$Steps.cell(II)I
def te_61 : tkE := (⟨"TickPlans$Steps", "cell", "(II)I"⟩, prog_5_method_2_code, 2, (some .int), true, 2, tm_61)
def tc_62 : tkT := [(0, .aload_n 0, 1), (1, .ldc2_w 9, 3), (4, .invokestatic 11, 3), (7, .iconst 0, 1), (8, .istore_n 1, 1), (9, .iload_n 1, 1), (10, .bipush 16, 2), (12, .if_icmp .ge 17, 3), (15, .aload_n 0, 1), (16, .iload_n 1, 1), (17, .iload_n 1, 1), (18, .invokestatic 17, 3), (21, .lconst 0, 1), (22, .lastore, 1), (23, .iinc 1 1, 3), (26, .goto (-17), 3), (29, .return_, 1)]
def tm_62 : tkM := (7, 3, 1, 24, tc_62) -- TickPlans$Steps.clear([J)V
def te_62 : tkE := (⟨"TickPlans$Steps", "clear", "([J)V"⟩, prog_5_method_3_code, 2, none, true, 1, tm_62)
def tc_63 : tkT := [(0, .iload_n 1, 1), (1, .bipush 16, 2), (3, .imul, 1), (4, .iload_n 2, 1), (5, .iadd, 1), (6, .istore 5, 2), (8, .lload_n 3, 1), (9, .aload_n 0, 1), (10, .iload 5, 2), (12, .laload, 1), (13, .lcmp, 1), (14, .ifCond .ge 8, 3), (17, .aload_n 0, 1), (18, .iload 5, 2), (20, .lload_n 3, 1), (21, .lastore, 1), (22, .return_, 1)]
def tm_63 : tkM := (7, 3, 0, 0, tc_63) -- TickPlans$Steps.lower([JIIJ)V
def te_63 : tkE := (⟨"TickPlans$Steps", "lower", "([JIIJ)V"⟩, prog_5_method_4_code, 6, none, true, 4, tm_63)
def tc_64 : tkT := [(0, .aload_n 0, 1), (1, .iload_n 1, 1), (2, .iload_n 2, 1), (3, .lload 5, 2), (5, .invokestatic 23, 3), (8, .aload_n 0, 1), (9, .iload_n 2, 1), (10, .iload_n 1, 1), (11, .lload_n 3, 1), (12, .lneg, 1), (13, .invokestatic 23, 3), (16, .return_, 1)]
def tm_64 : tkM := (7, 3, 1, 25, tc_64) -- TickPlans$Steps.lowerBothWays([JIIJJ)V
def te_64 : tkE := (⟨"TickPlans$Steps", "lowerBothWays", "([JIIJJ)V"⟩, prog_5_method_5_code, 7, none, true, 5, tm_64)
def tc_65 : tkT := [(0, .aload_n 1, 1), (1, .invokestatic 27, 3), (4, .iconst 0, 1), (5, .istore_n 2, 1), (6, .iload_n 2, 1), (7, .aload_n 0, 1), (8, .invokevirtual 31, 3), (11, .if_icmp .ge 35, 3), (14, .aload_n 1, 1), (15, .aload_n 0, 1), (16, .iload_n 2, 1), (17, .invokevirtual 37, 3), (20, .aload_n 0, 1), (21, .iload_n 2, 1), (22, .invokevirtual 41, 3), (25, .aload_n 0, 1), (26, .iload_n 2, 1), (27, .invokevirtual 44, 3), (30, .i2l, 1), (31, .aload_n 0, 1), (32, .iload_n 2, 1), (33, .invokevirtual 47, 3), (36, .i2l, 1), (37, .invokestatic 50, 3), (40, .iinc 2 1, 3), (43, .goto (-37), 3), (46, .return_, 1)]
def tm_65 : tkM := (7, 3, 2, 51, tc_65) -- TickPlans$Steps.ofAllLinks(LTickPlans$Net;[J)V
def te_65 : tkE := (⟨"TickPlans$Steps", "ofAllLinks", "(LTickPlans$Net;[J)V"⟩, prog_5_method_6_code, 3, none, true, 2, tm_65)
def tc_66 : tkT := [(0, .aload_n 0, 1), (1, .iload_n 1, 1), (2, .invokestatic 54, 3), (5, .ifCond .eq 5, 3), (8, .iconst 0, 1), (9, .ireturn, 1), (10, .iconst 0, 1), (11, .istore_n 2, 1), (12, .iload_n 2, 1), (13, .iload_n 1, 1), (14, .if_icmp .ge 39, 3), (17, .iconst 0, 1), (18, .istore_n 3, 1), (19, .iload_n 3, 1), (20, .iload_n 1, 1), (21, .if_icmp .ge 16, 3), (24, .aload_n 0, 1), (25, .iload_n 1, 1), (26, .iload_n 3, 1), (27, .iload_n 2, 1), (28, .invokestatic 58, 3), (31, .iinc 3 1, 3), (34, .goto (-15), 3), (37, .aload_n 0, 1), (38, .iload_n 1, 1), (39, .invokestatic 54, 3), (42, .ifCond .eq 5, 3), (45, .iconst 0, 1), (46, .ireturn, 1), (47, .iinc 2 1, 3), (50, .goto (-38), 3), (53, .iconst 1, 1), (54, .ireturn, 1)]
def tm_66 : tkM := (7, 1, 1, 30, tc_66) -- TickPlans$Steps.close([JI)Z
def te_66 : tkE := (⟨"TickPlans$Steps", "close", "([JI)Z"⟩, prog_5_method_7_code, 4, (some .boolean), true, 2, tm_66)
def tc_67 : tkT := [(0, .iload_n 2, 1), (1, .bipush 16, 2), (3, .imul, 1), (4, .istore 4, 2), (6, .iload_n 3, 1), (7, .bipush 16, 2), (9, .imul, 1), (10, .istore 5, 2), (12, .aload_n 0, 1), (13, .iload 4, 2), (15, .iload_n 3, 1), (16, .iadd, 1), (17, .laload, 1), (18, .lstore 6, 2), (20, .iconst 0, 1), (21, .istore 8, 2), (23, .iload 8, 2), (25, .iload_n 1, 1), (26, .if_icmp .ge 64, 3), (29, .aload_n 0, 1), (30, .iload 5, 2), (32, .iload 8, 2), (34, .iadd, 1), (35, .laload, 1), (36, .lstore 9, 2), (38, .lload 6, 2), (40, .ldc2_w 9, 3), (43, .lcmp, 1), (44, .ifCond .eq 40, 3), (47, .lload 9, 2), (49, .ldc2_w 9, 3), (52, .lcmp, 1), (53, .ifCond .eq 31, 3), (56, .lload 6, 2), (58, .lload 9, 2), (60, .ladd, 1), (61, .aload_n 0, 1), (62, .iload 4, 2), (64, .iload 8, 2), (66, .iadd, 1), (67, .laload, 1), (68, .lcmp, 1), (69, .ifCond .ge 15, 3), (72, .aload_n 0, 1), (73, .iload 4, 2), (75, .iload 8, 2), (77, .iadd, 1), (78, .lload 6, 2), (80, .lload 9, 2), (82, .ladd, 1), (83, .lastore, 1), (84, .iinc 8 1, 3), (87, .goto (-64), 3), (90, .return_, 1)]
def tm_67 : tkM := (7, 3, 0, 0, tc_67) -- TickPlans$Steps.lowerRowVia([JIII)V
def te_67 : tkE := (⟨"TickPlans$Steps", "lowerRowVia", "([JIII)V"⟩, prog_5_method_8_code, 11, none, true, 4, tm_67)
def tc_68 : tkT := [(0, .iconst 0, 1), (1, .istore_n 2, 1), (2, .iload_n 2, 1), (3, .iload_n 1, 1), (4, .if_icmp .ge 24, 3), (7, .aload_n 0, 1), (8, .iload_n 2, 1), (9, .bipush 16, 2), (11, .imul, 1), (12, .iload_n 2, 1), (13, .iadd, 1), (14, .laload, 1), (15, .lconst 0, 1), (16, .lcmp, 1), (17, .ifCond .ge 5, 3), (20, .iconst 1, 1), (21, .ireturn, 1), (22, .iinc 2 1, 3), (25, .goto (-23), 3), (28, .iconst 0, 1), (29, .ireturn, 1)]
def tm_68 : tkM := (7, 1, 0, 0, tc_68) -- TickPlans$Steps.someoneReachesItselfBelowZero([JI)Z
def te_68 : tkE := (⟨"TickPlans$Steps", "someoneReachesItselfBelowZero", "([JI)Z"⟩, prog_5_method_9_code, 3, (some .boolean), true, 2, tm_68)
def tc_69 : tkT := [(0, .aload_n 0, 1), (1, .getfield 19, 3), (4, .ireturn, 1)]
def tm_69 : tkM := (3, 0, 0, 0, tc_69) -- TickPlans$Tape.size()I
def te_69 : tkE := (⟨"TickPlans$Tape", "size", "()I"⟩, prog_6_method_2_code, 1, (some .int), false, 0, tm_69)
def tc_70 : tkT := [(0, .aload_n 0, 1), (1, .getfield 23, 3), (4, .ireturn, 1)]
def tm_70 : tkM := (3, 0, 0, 0, tc_70) -- TickPlans$Tape.place()I
def te_70 : tkE := (⟨"TickPlans$Tape", "place", "()I"⟩, prog_6_method_3_code, 1, (some .int), false, 0, tm_70)
def tc_71 : tkT := [(0, .aload_n 0, 1), (1, .getfield 19, 3), (4, .bipush 20, 2), (6, .iadd, 1), (7, .sipush 1000, 3), (10, .if_icmp .gt 7, 3), (13, .iconst 1, 1), (14, .goto 4, 3), (17, .iconst 0, 1), (18, .ireturn, 1)]
def tm_71 : tkM := (3, 1, 0, 0, tc_71) -- TickPlans$Tape.hasRoom()Z
def te_71 : tkE := (⟨"TickPlans$Tape", "hasRoom", "()Z"⟩, prog_6_method_4_code, 1, (some .boolean), false, 0, tm_71)
def tc_72 : tkT := [(0, .bipush 24, 2), (2, .istore_n 2, 1), (3, .iload_n 2, 1), (4, .ifCond .lt 42, 3), (7, .aload_n 0, 1), (8, .getfield 19, 3), (11, .sipush 1000, 3), (14, .if_icmp .ge 32, 3), (17, .aload_n 0, 1), (18, .getfield 9, 3), (21, .aload_n 0, 1), (22, .getfield 19, 3), (25, .iload_n 1, 1), (26, .iload_n 2, 1), (27, .ishr, 1), (28, .i2b, 1), (29, .bastore, 1), (30, .aload_n 0, 1), (31, .dup, 1), (32, .getfield 19, 3), (35, .iconst 1, 1), (36, .iadd, 1), (37, .putfield 19, 3), (40, .iinc 2 (-8), 3), (43, .goto (-40), 3), (46, .return_, 1)]
def tm_72 : tkM := (3, 3, 0, 0, tc_72) -- TickPlans$Tape.addNumber(I)V
def te_72 : tkE := (⟨"TickPlans$Tape", "addNumber", "(I)V"⟩, prog_6_method_5_code, 3, none, false, 1, tm_72)
def tc_73 : tkT := [(0, .aload_n 0, 1), (1, .iload_n 1, 1), (2, .putfield 19, 3), (5, .return_, 1)]
def tm_73 : tkM := (3, 3, 0, 0, tc_73) -- TickPlans$Tape.keepFirst(I)V
def te_73 : tkE := (⟨"TickPlans$Tape", "keepFirst", "(I)V"⟩, prog_6_method_6_code, 2, none, false, 1, tm_73)
def tc_74 : tkT := [(0, .aload_n 0, 1), (1, .iconst 0, 1), (2, .putfield 23, 3), (5, .iconst 0, 1), (6, .istore_n 2, 1), (7, .iload_n 2, 1), (8, .sipush 1000, 3), (11, .if_icmp .gt 36, 3), (14, .aload_n 0, 1), (15, .invokevirtual 26, 3), (18, .aload_n 0, 1), (19, .getfield 23, 3), (22, .aload_n 0, 1), (23, .getfield 19, 3), (26, .if_icmp .lt 5, 3), (29, .iconst 1, 1), (30, .ireturn, 1), (31, .aload_n 0, 1), (32, .aload_n 1, 1), (33, .invokevirtual 29, 3), (36, .ifCond .ne 5, 3), (39, .iconst 0, 1), (40, .ireturn, 1), (41, .iinc 2 1, 3), (44, .goto (-37), 3), (47, .iconst 0, 1), (48, .ireturn, 1)]
def tm_74 : tkM := (3, 1, 5, 118, tc_74) -- TickPlans$Tape.readInto(LTickPlans$Net;)Z
def te_74 : tkE := (⟨"TickPlans$Tape", "readInto", "(LTickPlans$Net;)Z"⟩, prog_6_method_7_code, 3, (some .boolean), false, 1, tm_74)
def tc_75 : tkT := [(0, .aload_n 0, 1), (1, .getfield 9, 3), (4, .aload_n 0, 1), (5, .getfield 23, 3), (8, .baload, 1), (9, .istore_n 2, 1), (10, .iload_n 2, 1), (11, .invokestatic 33, 3), (14, .istore_n 3, 1), (15, .iload_n 3, 1), (16, .ifCond .ne 5, 3), (19, .iconst 0, 1), (20, .ireturn, 1), (21, .aload_n 0, 1), (22, .dup, 1), (23, .getfield 23, 3), (26, .iconst 1, 1), (27, .iadd, 1), (28, .putfield 23, 3), (31, .iconst 0, 1), (32, .istore 4, 2), (34, .iload 4, 2), (36, .iload_n 3, 1), (37, .if_icmp .ge 33, 3), (40, .aload_n 0, 1), (41, .invokevirtual 26, 3), (44, .aload_n 0, 1), (45, .invokevirtual 37, 3), (48, .ifCond .ne 5, 3), (51, .iconst 0, 1), (52, .ireturn, 1), (53, .aload_n 0, 1), (54, .getfield 15, 3), (57, .iload 4, 2), (59, .aload_n 0, 1), (60, .getfield 41, 3), (63, .iastore, 1), (64, .iinc 4 1, 3), (67, .goto (-33), 3), (70, .aload_n 0, 1), (71, .invokevirtual 26, 3), (74, .aload_n 0, 1), (75, .getfield 23, 3), (78, .aload_n 0, 1), (79, .getfield 19, 3), (82, .if_icmp .ge 26, 3), (85, .aload_n 0, 1), (86, .getfield 9, 3), (89, .aload_n 0, 1), (90, .getfield 23, 3), (93, .baload, 1), (94, .bipush 59, 2), (96, .if_icmp .ne 12, 3), (99, .aload_n 0, 1), (100, .aload_n 1, 1), (101, .iload_n 2, 1), (102, .invokevirtual 44, 3), (105, .ifCond .ge 5, 3), (108, .iconst 0, 1), (109, .ireturn, 1), (110, .aload_n 0, 1), (111, .dup, 1), (112, .getfield 23, 3), (115, .iconst 1, 1), (116, .iadd, 1), (117, .putfield 23, 3), (120, .iconst 1, 1), (121, .ireturn, 1)]
def tm_75 : tkM := (3, 1, 4, 94, tc_75) -- TickPlans$Tape.readItem(LTickPlans$Net;)Z
def te_75 : tkE := (⟨"TickPlans$Tape", "readItem", "(LTickPlans$Net;)Z"⟩, prog_6_method_8_code, 5, (some .boolean), false, 1, tm_75)
def tc_76 : tkT := [(0, .iload_n 0, 1), (1, .bipush 109, 2), (3, .if_icmp .ne 5, 3), (6, .iconst 1, 1), (7, .ireturn, 1), (8, .iload_n 0, 1), (9, .bipush 119, 2), (11, .if_icmp .eq 9, 3), (14, .iload_n 0, 1), (15, .bipush 103, 2), (17, .if_icmp .ne 7, 3), (20, .iconst 4, 1), (21, .goto 4, 3), (24, .iconst 0, 1), (25, .ireturn, 1)]
def tm_76 : tkM := (3, 0, 0, 0, tc_76) -- TickPlans$Tape.numbersBehind(I)I
def te_76 : tkE := (⟨"TickPlans$Tape", "numbersBehind", "(I)I"⟩, prog_6_method_9_code, 1, (some .int), true, 1, tm_76)
def tc_77 : tkT := [(0, .iload_n 2, 1), (1, .bipush 109, 2), (3, .if_icmp .ne 14, 3), (6, .aload_n 1, 1), (7, .aload_n 0, 1), (8, .getfield 15, 3), (11, .iconst 0, 1), (12, .iaload, 1), (13, .invokevirtual 48, 3), (16, .ireturn, 1), (17, .iload_n 2, 1), (18, .bipush 119, 2), (20, .if_icmp .ne 32, 3), (23, .aload_n 1, 1), (24, .aload_n 0, 1), (25, .getfield 15, 3), (28, .iconst 0, 1), (29, .iaload, 1), (30, .aload_n 0, 1), (31, .getfield 15, 3), (34, .iconst 1, 1), (35, .iaload, 1), (36, .aload_n 0, 1), (37, .getfield 15, 3), (40, .iconst 2, 1), (41, .iaload, 1), (42, .aload_n 0, 1), (43, .getfield 15, 3), (46, .iconst 3, 1), (47, .iaload, 1), (48, .invokevirtual 53, 3), (51, .ireturn, 1), (52, .aload_n 1, 1), (53, .aload_n 0, 1), (54, .getfield 15, 3), (57, .iconst 0, 1), (58, .iaload, 1), (59, .aload_n 0, 1), (60, .getfield 15, 3), (63, .iconst 1, 1), (64, .iaload, 1), (65, .aload_n 0, 1), (66, .getfield 15, 3), (69, .iconst 2, 1), (70, .iaload, 1), (71, .aload_n 0, 1), (72, .getfield 15, 3), (75, .iconst 3, 1), (76, .iaload, 1), (77, .invokevirtual 57, 3), (80, .ireturn, 1)]
def tm_77 : tkM := (3, 0, 3, 72, tc_77) -- TickPlans$Tape.putItem(LTickPlans$Net;I)I
def te_77 : tkE := (⟨"TickPlans$Tape", "putItem", "(LTickPlans$Net;I)I"⟩, prog_6_method_10_code, 3, (some .int), false, 2, tm_77)
def tc_78 : tkT := [(0, .aload_n 0, 1), (1, .getfield 23, 3), (4, .aload_n 0, 1), (5, .getfield 19, 3), (8, .if_icmp .ge 44, 3), (11, .aload_n 0, 1), (12, .getfield 9, 3), (15, .aload_n 0, 1), (16, .getfield 23, 3), (19, .baload, 1), (20, .bipush 32, 2), (22, .if_icmp .eq 17, 3), (25, .aload_n 0, 1), (26, .getfield 9, 3), (29, .aload_n 0, 1), (30, .getfield 23, 3), (33, .baload, 1), (34, .bipush 10, 2), (36, .if_icmp .ne 16, 3), (39, .aload_n 0, 1), (40, .dup, 1), (41, .getfield 23, 3), (44, .iconst 1, 1), (45, .iadd, 1), (46, .putfield 23, 3), (49, .goto (-49), 3), (52, .return_, 1)]
def tm_78 : tkM := (3, 3, 0, 0, tc_78) -- TickPlans$Tape.skipBlanks()V
def te_78 : tkE := (⟨"TickPlans$Tape", "skipBlanks", "()V"⟩, prog_6_method_11_code, 1, none, false, 0, tm_78)
def tc_79 : tkT := [(0, .aload_n 0, 1), (1, .getfield 23, 3), (4, .aload_n 0, 1), (5, .getfield 19, 3), (8, .if_icmp .ge 21, 3), (11, .aload_n 0, 1), (12, .getfield 9, 3), (15, .aload_n 0, 1), (16, .getfield 23, 3), (19, .baload, 1), (20, .bipush 45, 2), (22, .if_icmp .ne 7, 3), (25, .iconst 1, 1), (26, .goto 4, 3), (29, .iconst 0, 1), (30, .istore_n 1, 1), (31, .iconst 0, 1), (32, .istore_n 2, 1), (33, .iconst 0, 1), (34, .istore_n 3, 1), (35, .iload_n 1, 1), (36, .ifCond .eq 12, 3), (39, .aload_n 0, 1), (40, .getfield 23, 3), (43, .iconst 1, 1), (44, .iadd, 1), (45, .goto 7, 3), (48, .aload_n 0, 1), (49, .getfield 23, 3), (52, .istore 4, 2), (54, .iload 4, 2), (56, .aload_n 0, 1), (57, .getfield 19, 3), (60, .if_icmp .ge 58, 3), (63, .aload_n 0, 1), (64, .getfield 9, 3), (67, .iload 4, 2), (69, .baload, 1), (70, .bipush 48, 2), (72, .if_icmp .lt 46, 3), (75, .aload_n 0, 1), (76, .getfield 9, 3), (79, .iload 4, 2), (81, .baload, 1), (82, .bipush 57, 2), (84, .if_icmp .gt 34, 3), (87, .iload_n 2, 1), (88, .bipush 6, 2), (90, .if_icmp .ge 19, 3), (93, .iload_n 3, 1), (94, .bipush 10, 2), (96, .imul, 1), (97, .aload_n 0, 1), (98, .getfield 9, 3), (101, .iload 4, 2), (103, .baload, 1), (104, .bipush 48, 2), (106, .isub, 1), (107, .iadd, 1), (108, .istore_n 3, 1), (109, .iinc 2 1, 3), (112, .iinc 4 1, 3), (115, .goto (-61), 3), (118, .iload_n 2, 1), (119, .ifCond .eq 9, 3), (122, .iload_n 2, 1), (123, .bipush 6, 2), (125, .if_icmp .le 5, 3), (128, .iconst 0, 1), (129, .ireturn, 1), (130, .aload_n 0, 1), (131, .iload 4, 2), (133, .putfield 23, 3), (136, .aload_n 0, 1), (137, .iload_n 1, 1), (138, .ifCond .eq 8, 3), (141, .iload_n 3, 1), (142, .ineg, 1), (143, .goto 4, 3), (146, .iload_n 3, 1), (147, .putfield 41, 3), (150, .iconst 1, 1), (151, .ireturn, 1)]
def tm_79 : tkM := (3, 1, 0, 0, tc_79) -- TickPlans$Tape.takeNumber()Z
def te_79 : tkE := (⟨"TickPlans$Tape", "takeNumber", "()Z"⟩, prog_6_method_12_code, 5, (some .boolean), false, 0, tm_79)
def tc_80 : tkT := [(0, .aload_n 0, 1), (1, .iconst 0, 1), (2, .putfield 30, 3), (5, .return_, 1)]
def tm_80 : tkM := (4, 3, 0, 0, tc_80) -- TickPlans$Waits.forget()V
def te_80 : tkE := (⟨"TickPlans$Waits", "forget", "()V"⟩, prog_7_method_2_code, 1, none, false, 0, tm_80)
def tc_81 : tkT := [(0, .aload_n 0, 1), (1, .aload_n 1, 1), (2, .invokevirtual 34, 3), (5, .aload_n 0, 1), (6, .getfield 38, 3), (9, .ireturn, 1)]
def tm_81 : tkM := (4, 1, 5, 137, tc_81) -- TickPlans$Waits.isLively(LTickPlans$Net;)Z
def te_81 : tkE := (⟨"TickPlans$Waits", "isLively", "(LTickPlans$Net;)Z"⟩, prog_7_method_3_code, 2, (some .boolean), false, 1, tm_81)
def tc_82 : tkT := [(0, .aload_n 0, 1), (1, .aload_n 1, 1), (2, .invokevirtual 34, 3), (5, .aload_n 0, 1), (6, .getfield 41, 3), (9, .ireturn, 1)]
def tm_82 : tkM := (4, 0, 5, 137, tc_82) -- TickPlans$Waits.roundCount(LTickPlans$Net;)I
def te_82 : tkE := (⟨"TickPlans$Waits", "roundCount", "(LTickPlans$Net;)I"⟩, prog_7_method_4_code, 2, (some .int), false, 1, tm_82)
def tc_83 : tkT := [(0, .aload_n 0, 1), (1, .getfield 9, 3), (4, .iload_n 1, 1), (5, .iload_n 2, 1), (6, .invokestatic 45, 3), (9, .laload, 1), (10, .lreturn, 1)]
def tm_83 : tkM := (4, 2, 1, 21, tc_83) -- TickPlans$Waits.edgeOf(II)J
def te_83 : tkE := (⟨"TickPlans$Waits", "edgeOf", "(II)J"⟩, prog_7_method_5_code, 3, (some .long), false, 2, tm_83)
def tc_84 : tkT := [(0, .aload_n 0, 1), (1, .getfield 21, 3), (4, .iload_n 1, 1), (5, .iload_n 2, 1), (6, .invokestatic 51, 3), (9, .laload, 1), (10, .lreturn, 1)]
def tm_84 : tkM := (4, 2, 1, 21, tc_84) -- TickPlans$Waits.waitOf(II)J
def te_84 : tkE := (⟨"TickPlans$Waits", "waitOf", "(II)J"⟩, prog_7_method_6_code, 3, (some .long), false, 2, tm_84)
def tc_85 : tkT := [(0, .iload_n 0, 1), (1, .bipush 6, 2), (3, .imul, 1), (4, .iload_n 1, 1), (5, .iadd, 1), (6, .ireturn, 1)]
def tm_85 : tkM := (4, 0, 0, 0, tc_85) -- TickPlans$Waits.cell(II)I
def te_85 : tkE := (⟨"TickPlans$Waits", "cell", "(II)I"⟩, prog_7_method_7_code, 2, (some .int), true, 2, tm_85)
def tc_86 : tkT := [(0, .aload_n 0, 1), (1, .getfield 30, 3), (4, .ifCond .eq 4, 3), (7, .return_, 1), (8, .aload_n 1, 1), (9, .aload_n 0, 1), (10, .getfield 9, 3), (13, .invokestatic 52, 3), (16, .aload_n 0, 1), (17, .aload_n 1, 1), (18, .invokevirtual 56, 3), (21, .iconst 0, 1), (22, .istore_n 2, 1), (23, .aload_n 0, 1), (24, .iconst 0, 1), (25, .putfield 41, 3), (28, .iconst 1, 1), (29, .istore_n 3, 1), (30, .iload_n 3, 1), (31, .sipush 400, 3), (34, .if_icmp .gt 24, 3), (37, .iload_n 2, 1), (38, .ifCond .ne 20, 3), (41, .aload_n 0, 1), (42, .aload_n 1, 1), (43, .invokevirtual 59, 3), (46, .istore_n 2, 1), (47, .aload_n 0, 1), (48, .iload_n 3, 1), (49, .putfield 41, 3), (52, .iinc 3 1, 3), (55, .goto (-25), 3), (58, .aload_n 0, 1), (59, .iload_n 2, 1), (60, .iconst 1, 1), (61, .if_icmp .ne 7, 3), (64, .iconst 1, 1), (65, .goto 4, 3), (68, .iconst 0, 1), (69, .putfield 38, 3), (72, .aload_n 0, 1), (73, .iconst 1, 1), (74, .putfield 30, 3), (77, .return_, 1)]
def tm_86 : tkM := (4, 3, 4, 114, tc_86) -- TickPlans$Waits.work(LTickPlans$Net;)V
def te_86 : tkE := (⟨"TickPlans$Waits", "work", "(LTickPlans$Net;)V"⟩, prog_7_method_8_code, 4, none, false, 1, tm_86)
def tc_87 : tkT := [(0, .aload_n 0, 1), (1, .getfield 21, 3), (4, .ldc2_w 63, 3), (7, .invokestatic 65, 3), (10, .iconst 0, 1), (11, .istore_n 2, 1), (12, .iload_n 2, 1), (13, .aload_n 1, 1), (14, .invokevirtual 71, 3), (17, .if_icmp .ge 30, 3), (20, .aload_n 0, 1), (21, .getfield 21, 3), (24, .aload_n 1, 1), (25, .iload_n 2, 1), (26, .invokevirtual 77, 3), (29, .iload_n 2, 1), (30, .invokestatic 51, 3), (33, .aload_n 1, 1), (34, .iload_n 2, 1), (35, .invokevirtual 81, 3), (38, .ineg, 1), (39, .i2l, 1), (40, .lastore, 1), (41, .iinc 2 1, 3), (44, .goto (-32), 3), (47, .return_, 1)]
def tm_87 : tkM := (4, 3, 1, 24, tc_87) -- TickPlans$Waits.beginDelays(LTickPlans$Net;)V
def te_87 : tkE := (⟨"TickPlans$Waits", "beginDelays", "(LTickPlans$Net;)V"⟩, prog_7_method_9_code, 3, none, false, 1, tm_87)
def tc_88 : tkT := [(0, .aload_n 0, 1), (1, .getfield 9, 3), (4, .aload_n 0, 1), (5, .getfield 15, 3), (8, .invokestatic 84, 3), (11, .aload_n 0, 1), (12, .getfield 21, 3), (15, .aload_n 0, 1), (16, .getfield 24, 3), (19, .invokestatic 84, 3), (22, .aload_n 0, 1), (23, .getfield 9, 3), (26, .aload_n 1, 1), (27, .invokevirtual 88, 3), (30, .invokestatic 91, 3), (33, .ifCond .ne 5, 3), (36, .iconst 2, 1), (37, .ireturn, 1), (38, .aload_n 0, 1), (39, .aload_n 1, 1), (40, .invokevirtual 95, 3), (43, .aload_n 0, 1), (44, .aload_n 1, 1), (45, .invokevirtual 98, 3), (48, .aload_n 0, 1), (49, .aload_n 1, 1), (50, .invokevirtual 101, 3), (53, .aload_n 0, 1), (54, .aload_n 1, 1), (55, .invokevirtual 104, 3), (58, .aload_n 0, 1), (59, .getfield 9, 3), (62, .invokestatic 107, 3), (65, .ifCond .ne 21, 3), (68, .aload_n 0, 1), (69, .getfield 21, 3), (72, .invokestatic 107, 3), (75, .ifCond .ne 11, 3), (78, .aload_n 0, 1), (79, .aload_n 1, 1), (80, .invokevirtual 111, 3), (83, .ifCond .eq 5, 3), (86, .iconst 2, 1), (87, .ireturn, 1), (88, .aload_n 0, 1), (89, .getfield 9, 3), (92, .aload_n 0, 1), (93, .getfield 15, 3), (96, .invokestatic 115, 3), (99, .ifCond .eq 21, 3), (102, .aload_n 0, 1), (103, .getfield 21, 3), (106, .aload_n 0, 1), (107, .getfield 24, 3), (110, .invokestatic 115, 3), (113, .ifCond .eq 7, 3), (116, .iconst 1, 1), (117, .goto 4, 3), (120, .iconst 0, 1), (121, .ireturn, 1)]
def tm_88 : tkM := (4, 0, 3, 93, tc_88) -- TickPlans$Waits.doRound(LTickPlans$Net;)I
def te_88 : tkE := (⟨"TickPlans$Waits", "doRound", "(LTickPlans$Net;)I"⟩, prog_7_method_10_code, 2, (some .int), false, 1, tm_88)
def tc_89 : tkT := [(0, .aload_n 0, 1), (1, .getfield 21, 3), (4, .aload_n 0, 1), (5, .getfield 27, 3), (8, .invokestatic 84, 3), (11, .iconst 0, 1), (12, .istore_n 2, 1), (13, .iload_n 2, 1), (14, .aload_n 1, 1), (15, .invokevirtual 88, 3), (18, .if_icmp .ge 45, 3), (21, .iconst 0, 1), (22, .istore_n 3, 1), (23, .iload_n 3, 1), (24, .aload_n 1, 1), (25, .invokevirtual 71, 3), (28, .if_icmp .ge 29, 3), (31, .aload_n 0, 1), (32, .getfield 21, 3), (35, .iload_n 2, 1), (36, .iload_n 3, 1), (37, .invokestatic 51, 3), (40, .aload_n 0, 1), (41, .aload_n 1, 1), (42, .invokevirtual 88, 3), (45, .iload_n 2, 1), (46, .iload_n 3, 1), (47, .invokevirtual 119, 3), (50, .lastore, 1), (51, .iinc 3 1, 3), (54, .goto (-31), 3), (57, .iinc 2 1, 3), (60, .goto (-47), 3), (63, .return_, 1)]
def tm_89 : tkM := (4, 3, 2, 70, tc_89) -- TickPlans$Waits.carryWaitsAlongEdges(LTickPlans$Net;)V
def te_89 : tkE := (⟨"TickPlans$Waits", "carryWaitsAlongEdges", "(LTickPlans$Net;)V"⟩, prog_7_method_11_code, 4, none, false, 1, tm_89)
def tc_90 : tkT := [(0, .ldc2_w 63, 3), (3, .lstore 4, 2), (5, .iconst 0, 1), (6, .istore 6, 2), (8, .iload 6, 2), (10, .iload_n 1, 1), (11, .if_icmp .ge 65, 3), (14, .aload_n 0, 1), (15, .getfield 9, 3), (18, .iload_n 2, 1), (19, .iload 6, 2), (21, .invokestatic 45, 3), (24, .laload, 1), (25, .lstore 7, 2), (27, .aload_n 0, 1), (28, .getfield 27, 3), (31, .iload 6, 2), (33, .iload_n 3, 1), (34, .invokestatic 51, 3), (37, .laload, 1), (38, .lstore 9, 2), (40, .lload 7, 2), (42, .ldc2_w 63, 3), (45, .lcmp, 1), (46, .ifCond .eq 24, 3), (49, .lload 9, 2), (51, .ldc2_w 63, 3), (54, .lcmp, 1), (55, .ifCond .eq 15, 3), (58, .lload 4, 2), (60, .lload 7, 2), (62, .lload 9, 2), (64, .ladd, 1), (65, .invokestatic 123, 3), (68, .lstore 4, 2), (70, .iinc 6 1, 3), (73, .goto (-65), 3), (76, .lload 4, 2), (78, .lreturn, 1)]
def tm_90 : tkM := (4, 2, 1, 40, tc_90) -- TickPlans$Waits.leastWaitVia(III)J
def te_90 : tkE := (⟨"TickPlans$Waits", "leastWaitVia", "(III)J"⟩, prog_7_method_12_code, 11, (some .long), false, 3, tm_90)
def tc_91 : tkT := [(0, .iconst 0, 1), (1, .istore_n 2, 1), (2, .iload_n 2, 1), (3, .aload_n 1, 1), (4, .invokevirtual 71, 3), (7, .if_icmp .ge 83, 3), (10, .iconst 0, 1), (11, .istore_n 3, 1), (12, .iload_n 3, 1), (13, .aload_n 1, 1), (14, .invokevirtual 88, 3), (17, .if_icmp .ge 67, 3), (20, .aload_n 0, 1), (21, .getfield 21, 3), (24, .iload_n 3, 1), (25, .iload_n 2, 1), (26, .invokestatic 51, 3), (29, .laload, 1), (30, .lstore 4, 2), (32, .iload_n 3, 1), (33, .aload_n 1, 1), (34, .iload_n 2, 1), (35, .invokevirtual 77, 3), (38, .if_icmp .eq 40, 3), (41, .lload 4, 2), (43, .ldc2_w 63, 3), (46, .lcmp, 1), (47, .ifCond .eq 31, 3), (50, .lload 4, 2), (52, .aload_n 1, 1), (53, .iload_n 2, 1), (54, .invokevirtual 129, 3), (57, .ineg, 1), (58, .i2l, 1), (59, .lcmp, 1), (60, .ifCond .lt 18, 3), (63, .aload_n 0, 1), (64, .getfield 9, 3), (67, .iload_n 3, 1), (68, .aload_n 1, 1), (69, .iload_n 2, 1), (70, .invokevirtual 132, 3), (73, .lload 4, 2), (75, .invokestatic 135, 3), (78, .iinc 3 1, 3), (81, .goto (-69), 3), (84, .iinc 2 1, 3), (87, .goto (-85), 3), (90, .return_, 1)]
def tm_91 : tkM := (4, 3, 1, 25, tc_91) -- TickPlans$Waits.turnShortWaitsIntoEdges(LTickPlans$Net;)V
def te_91 : tkE := (⟨"TickPlans$Waits", "turnShortWaitsIntoEdges", "(LTickPlans$Net;)V"⟩, prog_7_method_13_code, 6, none, false, 1, tm_91)
def tc_92 : tkT := [(0, .aload_n 0, 1), (1, .getfield 9, 3), (4, .aload_n 0, 1), (5, .getfield 18, 3), (8, .invokestatic 84, 3), (11, .iconst 0, 1), (12, .istore_n 2, 1), (13, .iload_n 2, 1), (14, .aload_n 1, 1), (15, .invokevirtual 71, 3), (18, .if_icmp .ge 70, 3), (21, .iconst 0, 1), (22, .istore_n 3, 1), (23, .iload_n 3, 1), (24, .aload_n 1, 1), (25, .invokevirtual 88, 3), (28, .if_icmp .ge 54, 3), (31, .aload_n 0, 1), (32, .getfield 18, 3), (35, .aload_n 1, 1), (36, .iload_n 2, 1), (37, .invokevirtual 77, 3), (40, .iload_n 3, 1), (41, .invokestatic 45, 3), (44, .laload, 1), (45, .lstore 4, 2), (47, .lload 4, 2), (49, .lconst 0, 1), (50, .lcmp, 1), (51, .ifCond .ge 25, 3), (54, .aload_n 0, 1), (55, .getfield 9, 3), (58, .aload_n 1, 1), (59, .iload_n 2, 1), (60, .invokevirtual 132, 3), (63, .iload_n 3, 1), (64, .aload_n 1, 1), (65, .iload_n 2, 1), (66, .invokevirtual 129, 3), (69, .i2l, 1), (70, .lload 4, 2), (72, .ladd, 1), (73, .invokestatic 135, 3), (76, .iinc 3 1, 3), (79, .goto (-56), 3), (82, .iinc 2 1, 3), (85, .goto (-72), 3), (88, .return_, 1)]
def tm_92 : tkM := (4, 3, 2, 61, tc_92) -- TickPlans$Waits.carryEdgesOverGifts(LTickPlans$Net;)V
def te_92 : tkE := (⟨"TickPlans$Waits", "carryEdgesOverGifts", "(LTickPlans$Net;)V"⟩, prog_7_method_14_code, 6, none, false, 1, tm_92)
def tc_93 : tkT := [(0, .aload_n 0, 1), (1, .getfield 21, 3), (4, .aload_n 0, 1), (5, .getfield 27, 3), (8, .invokestatic 84, 3), (11, .iconst 0, 1), (12, .istore_n 2, 1), (13, .iload_n 2, 1), (14, .aload_n 1, 1), (15, .invokevirtual 71, 3), (18, .if_icmp .ge 90, 3), (21, .iconst 0, 1), (22, .istore_n 3, 1), (23, .iload_n 3, 1), (24, .aload_n 1, 1), (25, .invokevirtual 71, 3), (28, .if_icmp .ge 74, 3), (31, .aload_n 0, 1), (32, .getfield 27, 3), (35, .aload_n 1, 1), (36, .iload_n 2, 1), (37, .invokevirtual 77, 3), (40, .iload_n 3, 1), (41, .invokestatic 51, 3), (44, .laload, 1), (45, .lstore 4, 2), (47, .iload_n 3, 1), (48, .iload_n 2, 1), (49, .if_icmp .eq 47, 3), (52, .lload 4, 2), (54, .lconst 0, 1), (55, .lcmp, 1), (56, .ifCond .ge 40, 3), (59, .aload_n 1, 1), (60, .iload_n 2, 1), (61, .invokevirtual 132, 3), (64, .iload_n 3, 1), (65, .invokestatic 51, 3), (68, .istore 6, 2), (70, .aload_n 0, 1), (71, .getfield 21, 3), (74, .iload 6, 2), (76, .aload_n 0, 1), (77, .getfield 21, 3), (80, .iload 6, 2), (82, .laload, 1), (83, .aload_n 1, 1), (84, .iload_n 2, 1), (85, .invokevirtual 129, 3), (88, .i2l, 1), (89, .lload 4, 2), (91, .ladd, 1), (92, .invokestatic 123, 3), (95, .lastore, 1), (96, .iinc 3 1, 3), (99, .goto (-76), 3), (102, .iinc 2 1, 3), (105, .goto (-92), 3), (108, .return_, 1)]
def tm_93 : tkM := (4, 3, 2, 61, tc_93) -- TickPlans$Waits.carryWaitsOverGifts(LTickPlans$Net;)V
def te_93 : tkE := (⟨"TickPlans$Waits", "carryWaitsOverGifts", "(LTickPlans$Net;)V"⟩, prog_7_method_15_code, 7, none, false, 1, tm_93)
def tc_94 : tkT := [(0, .aload_n 0, 1), (1, .getfield 9, 3), (4, .aload_n 0, 1), (5, .getfield 18, 3), (8, .invokestatic 84, 3), (11, .iconst 0, 1), (12, .istore_n 2, 1), (13, .iload_n 2, 1), (14, .aload_n 1, 1), (15, .invokevirtual 71, 3), (18, .if_icmp .ge 48, 3), (21, .iconst 0, 1), (22, .istore_n 3, 1), (23, .iload_n 3, 1), (24, .aload_n 1, 1), (25, .invokevirtual 88, 3), (28, .if_icmp .ge 32, 3), (31, .aload_n 0, 1), (32, .getfield 18, 3), (35, .iload_n 3, 1), (36, .aload_n 1, 1), (37, .iload_n 2, 1), (38, .invokevirtual 132, 3), (41, .aload_n 0, 1), (42, .getfield 21, 3), (45, .iload_n 3, 1), (46, .iload_n 2, 1), (47, .invokestatic 51, 3), (50, .laload, 1), (51, .invokestatic 135, 3), (54, .iinc 3 1, 3), (57, .goto (-34), 3), (60, .iinc 2 1, 3), (63, .goto (-50), 3), (66, .aload_n 0, 1), (67, .getfield 18, 3), (70, .aload_n 1, 1), (71, .invokevirtual 88, 3), (74, .invokestatic 91, 3), (77, .ifCond .ne 7, 3), (80, .iconst 1, 1), (81, .goto 4, 3), (84, .iconst 0, 1), (85, .ireturn, 1)]
def tm_94 : tkM := (4, 1, 2, 61, tc_94) -- TickPlans$Waits.hasRingWithWaits(LTickPlans$Net;)Z
def te_94 : tkE := (⟨"TickPlans$Waits", "hasRingWithWaits", "(LTickPlans$Net;)Z"⟩, prog_7_method_16_code, 4, (some .boolean), false, 1, tm_94)
def tc_95 : tkT := [(0, .iconst 0, 1), (1, .istore_n 1, 1), (2, .iload_n 1, 1), (3, .aload_n 0, 1), (4, .arraylength, 1), (5, .if_icmp .ge 21, 3), (8, .aload_n 0, 1), (9, .iload_n 1, 1), (10, .laload, 1), (11, .ldc2_w 139, 3), (14, .lcmp, 1), (15, .ifCond .ge 5, 3), (18, .iconst 1, 1), (19, .ireturn, 1), (20, .iinc 1 1, 3), (23, .goto (-21), 3), (26, .iconst 0, 1), (27, .ireturn, 1)]
def tm_95 : tkM := (4, 1, 0, 0, tc_95) -- TickPlans$Waits.isTooDeep([J)Z
def te_95 : tkE := (⟨"TickPlans$Waits", "isTooDeep", "([J)Z"⟩, prog_7_method_17_code, 2, (some .boolean), true, 1, tm_95)
def tc_96 : tkT := [(0, .iconst 0, 1), (1, .istore_n 2, 1), (2, .iload_n 2, 1), (3, .aload_n 0, 1), (4, .arraylength, 1), (5, .if_icmp .ge 27, 3), (8, .iload_n 2, 1), (9, .aload_n 1, 1), (10, .arraylength, 1), (11, .if_icmp .ge 21, 3), (14, .aload_n 0, 1), (15, .iload_n 2, 1), (16, .laload, 1), (17, .aload_n 1, 1), (18, .iload_n 2, 1), (19, .laload, 1), (20, .lcmp, 1), (21, .ifCond .eq 5, 3), (24, .iconst 0, 1), (25, .ireturn, 1), (26, .iinc 2 1, 3), (29, .goto (-27), 3), (32, .iconst 1, 1), (33, .ireturn, 1)]
def tm_96 : tkM := (4, 1, 0, 0, tc_96) -- TickPlans$Waits.same([J[J)Z
def te_96 : tkE := (⟨"TickPlans$Waits", "same", "([J[J)Z"⟩, prog_7_method_18_code, 3, (some .boolean), true, 2, tm_96)
def tc_97 : tkT := [(0, .aload_n 0, 1), (1, .iconst 0, 1), (2, .aload_n 1, 1), (3, .iconst 0, 1), (4, .aload_n 0, 1), (5, .arraylength, 1), (6, .aload_n 1, 1), (7, .arraylength, 1), (8, .invokestatic 141, 3), (11, .invokestatic 143, 3), (14, .return_, 1)]
def tm_97 : tkM := (4, 3, 1, 40, tc_97) -- TickPlans$Waits.copy([J[J)V
def te_97 : tkE := (⟨"TickPlans$Waits", "copy", "([J[J)V"⟩, prog_7_method_19_code, 2, none, true, 2, tm_97)
def tc_98 : tkT := [(0, .aload_n 0, 1), (1, .aload_n 0, 1), (2, .getfield 10, 3), (5, .iload_n 1, 1), (6, .invokevirtual 47, 3), (9, .invokevirtual 51, 3), (12, .ireturn, 1)]
def tm_98 : tkM := (5, 0, 2, 41, tc_98) -- TickPlans.moments(I)I
def te_98 : tkE := (⟨"TickPlans", "moments", "(I)I"⟩, prog_1_method_2_code, 2, (some .int), false, 1, tm_98)
def tc_99 : tkT := [(0, .aload_n 0, 1), (1, .aload_n 0, 1), (2, .getfield 10, 3), (5, .iload_n 1, 1), (6, .iload_n 2, 1), (7, .iload_n 3, 1), (8, .iload 4, 2), (10, .invokevirtual 54, 3), (13, .invokevirtual 51, 3), (16, .ireturn, 1)]
def tm_99 : tkM := (5, 0, 3, 72, tc_99) -- TickPlans.wish(IIII)I
def te_99 : tkE := (⟨"TickPlans", "wish", "(IIII)I"⟩, prog_1_method_3_code, 5, (some .int), false, 4, tm_99)
def tc_100 : tkT := [(0, .aload_n 0, 1), (1, .aload_n 0, 1), (2, .getfield 10, 3), (5, .iload_n 1, 1), (6, .iload_n 2, 1), (7, .iload_n 3, 1), (8, .iload 4, 2), (10, .invokevirtual 58, 3), (13, .invokevirtual 51, 3), (16, .ireturn, 1)]
def tm_100 : tkM := (5, 0, 3, 72, tc_100) -- TickPlans.gift(IIII)I
def te_100 : tkE := (⟨"TickPlans", "gift", "(IIII)I"⟩, prog_1_method_4_code, 5, (some .int), false, 4, tm_100)
def tc_101 : tkT := [(0, .aload_n 0, 1), (1, .aload_n 0, 1), (2, .getfield 10, 3), (5, .invokevirtual 61, 3), (8, .invokevirtual 51, 3), (11, .ireturn, 1)]
def tm_101 : tkM := (5, 0, 2, 41, tc_101) -- TickPlans.undo()I
def te_101 : tkE := (⟨"TickPlans", "undo", "()I"⟩, prog_1_method_5_code, 1, (some .int), false, 0, tm_101)
def tc_102 : tkT := [(0, .aload_n 0, 1), (1, .aload_n 0, 1), (2, .getfield 10, 3), (5, .iload_n 1, 1), (6, .iload_n 2, 1), (7, .iload_n 3, 1), (8, .invokevirtual 65, 3), (11, .invokevirtual 51, 3), (14, .ireturn, 1)]
def tm_102 : tkM := (5, 0, 2, 45, tc_102) -- TickPlans.tighten(III)I
def te_102 : tkE := (⟨"TickPlans", "tighten", "(III)I"⟩, prog_1_method_6_code, 4, (some .int), false, 3, tm_102)
def tc_103 : tkT := [(0, .aload_n 0, 1), (1, .getfield 10, 3), (4, .iload_n 1, 1), (5, .iload_n 2, 1), (6, .invokevirtual 69, 3), (9, .ireturn, 1)]
def tm_103 : tkM := (5, 0, 2, 43, tc_103) -- TickPlans.link(II)I
def te_103 : tkE := (⟨"TickPlans", "link", "(II)I"⟩, prog_1_method_7_code, 3, (some .int), false, 2, tm_103)
def tc_104 : tkT := [(0, .aload_n 0, 1), (1, .getfield 22, 3), (4, .invokevirtual 73, 3), (7, .ifCond .ne 6, 3), (10, .bipush (-14), 2), (12, .ireturn, 1), (13, .aload_n 0, 1), (14, .getfield 22, 3), (17, .iload_n 1, 1), (18, .invokevirtual 77, 3), (21, .aload_n 0, 1), (22, .getfield 22, 3), (25, .iload_n 2, 1), (26, .invokevirtual 77, 3), (29, .aload_n 0, 1), (30, .getfield 22, 3), (33, .iload_n 3, 1), (34, .invokevirtual 77, 3), (37, .aload_n 0, 1), (38, .getfield 22, 3), (41, .iload 4, 2), (43, .invokevirtual 77, 3), (46, .aload_n 0, 1), (47, .getfield 22, 3), (50, .iload 5, 2), (52, .invokevirtual 77, 3), (55, .aload_n 0, 1), (56, .getfield 22, 3), (59, .invokevirtual 81, 3), (62, .ireturn, 1)]
def tm_104 : tkM := (5, 0, 1, 22, tc_104) -- TickPlans.feed(IIIII)I
def te_104 : tkE := (⟨"TickPlans", "feed", "(IIIII)I"⟩, prog_1_method_8_code, 6, (some .int), false, 5, tm_104)
def tc_105 : tkT := [(0, .iload_n 1, 1), (1, .ifCond .lt 14, 3), (4, .iload_n 1, 1), (5, .aload_n 0, 1), (6, .getfield 22, 3), (9, .invokevirtual 81, 3), (12, .if_icmp .le 6, 3), (15, .bipush (-12), 2), (17, .ireturn, 1), (18, .aload_n 0, 1), (19, .getfield 22, 3), (22, .iload_n 1, 1), (23, .invokevirtual 84, 3), (26, .iload_n 1, 1), (27, .ireturn, 1)]
def tm_105 : tkM := (5, 0, 1, 21, tc_105) -- TickPlans.trim(I)I
def te_105 : tkE := (⟨"TickPlans", "trim", "(I)I"⟩, prog_1_method_9_code, 2, (some .int), false, 1, tm_105)
def tc_106 : tkT := [(0, .aload_n 0, 1), (1, .getfield 16, 3), (4, .invokevirtual 87, 3), (7, .aload_n 0, 1), (8, .getfield 22, 3), (11, .aload_n 0, 1), (12, .getfield 16, 3), (15, .invokevirtual 90, 3), (18, .istore_n 1, 1), (19, .aload_n 0, 1), (20, .getfield 22, 3), (23, .invokevirtual 94, 3), (26, .istore_n 2, 1), (27, .aload_n 0, 1), (28, .getfield 22, 3), (31, .iconst 0, 1), (32, .invokevirtual 84, 3), (35, .iload_n 1, 1), (36, .ifCond .ne 8, 3), (39, .bipush (-20), 2), (41, .iload_n 2, 1), (42, .isub, 1), (43, .ireturn, 1), (44, .aload_n 0, 1), (45, .getfield 10, 3), (48, .astore_n 3, 1), (49, .aload_n 0, 1), (50, .aload_n 0, 1), (51, .getfield 16, 3), (54, .putfield 10, 3), (57, .aload_n 0, 1), (58, .aload_n 3, 1), (59, .putfield 16, 3), (62, .aload_n 0, 1), (63, .aload_n 0, 1), (64, .getfield 10, 3), (67, .invokevirtual 97, 3), (70, .invokevirtual 51, 3), (73, .ireturn, 1)]
def tm_106 : tkM := (5, 0, 6, 140, tc_106) -- TickPlans.read()I
def te_106 : tkE := (⟨"TickPlans", "read", "()I"⟩, prog_1_method_10_code, 4, (some .int), false, 0, tm_106)
def tc_107 : tkT := [(0, .aload_n 0, 1), (1, .getfield 29, 3), (4, .aload_n 0, 1), (5, .getfield 10, 3), (8, .invokevirtual 100, 3), (11, .ifCond .eq 7, 3), (14, .iconst 1, 1), (15, .goto 4, 3), (18, .iconst 0, 1), (19, .ireturn, 1)]
def tm_107 : tkM := (5, 0, 4, 94, tc_107) -- TickPlans.together()I
def te_107 : tkE := (⟨"TickPlans", "together", "()I"⟩, prog_1_method_11_code, 1, (some .int), false, 0, tm_107)
def tc_108 : tkT := [(0, .aload_n 0, 1), (1, .getfield 10, 3), (4, .iload_n 1, 1), (5, .invokevirtual 103, 3), (8, .ifCond .eq 14, 3), (11, .aload_n 0, 1), (12, .getfield 10, 3), (15, .iload_n 2, 1), (16, .invokevirtual 103, 3), (19, .ifCond .ne 5, 3), (22, .lconst 0, 1), (23, .lreturn, 1), (24, .aload_n 0, 1), (25, .getfield 29, 3), (28, .aload_n 0, 1), (29, .getfield 10, 3), (32, .invokevirtual 100, 3), (35, .ifCond .eq 15, 3), (38, .aload_n 0, 1), (39, .getfield 29, 3), (42, .iload_n 1, 1), (43, .iload_n 2, 1), (44, .invokevirtual 107, 3), (47, .goto 4, 3), (50, .lconst 0, 1), (51, .lreturn, 1)]
def tm_108 : tkM := (5, 2, 4, 94, tc_108) -- TickPlans.distance(II)J
def te_108 : tkE := (⟨"TickPlans", "distance", "(II)J"⟩, prog_1_method_12_code, 3, (some .long), false, 2, tm_108)
def tc_109 : tkT := [(0, .aload_n 0, 1), (1, .getfield 29, 3), (4, .aload_n 0, 1), (5, .getfield 10, 3), (8, .invokevirtual 111, 3), (11, .ifCond .eq 7, 3), (14, .iconst 1, 1), (15, .goto 4, 3), (18, .iconst 0, 1), (19, .ireturn, 1)]
def tm_109 : tkM := (5, 0, 5, 122, tc_109) -- TickPlans.strong()I
def te_109 : tkE := (⟨"TickPlans", "strong", "()I"⟩, prog_1_method_13_code, 1, (some .int), false, 0, tm_109)
def tc_110 : tkT := [(0, .aload_n 0, 1), (1, .getfield 29, 3), (4, .aload_n 0, 1), (5, .getfield 10, 3), (8, .invokevirtual 114, 3), (11, .bipush (-9), 2), (13, .if_icmp .ne 7, 3), (16, .iconst 1, 1), (17, .goto 4, 3), (20, .iconst 0, 1), (21, .ireturn, 1)]
def tm_110 : tkM := (5, 0, 6, 141, tc_110) -- TickPlans.weak()I
def te_110 : tkE := (⟨"TickPlans", "weak", "()I"⟩, prog_1_method_14_code, 1, (some .int), false, 0, tm_110)
def tc_111 : tkT := [(0, .aload_n 0, 1), (1, .getfield 10, 3), (4, .iload_n 1, 1), (5, .invokevirtual 118, 3), (8, .ifCond .ne 6, 3), (11, .bipush (-11), 2), (13, .ireturn, 1), (14, .aload_n 0, 1), (15, .getfield 29, 3), (18, .aload_n 0, 1), (19, .getfield 10, 3), (22, .invokevirtual 114, 3), (25, .istore_n 2, 1), (26, .iload_n 2, 1), (27, .bipush (-9), 2), (29, .if_icmp .ne 8, 3), (32, .bipush (-13), 2), (34, .goto 12, 3), (37, .aload_n 0, 1), (38, .getfield 10, 3), (41, .iload_n 1, 1), (42, .iload_n 2, 1), (43, .invokevirtual 121, 3), (46, .ireturn, 1)]
def tm_111 : tkM := (5, 0, 6, 141, tc_111) -- TickPlans.spoiler(I)I
def te_111 : tkE := (⟨"TickPlans", "spoiler", "(I)I"⟩, prog_1_method_15_code, 3, (some .int), false, 1, tm_111)
def tc_112 : tkT := [(0, .aload_n 0, 1), (1, .getfield 36, 3), (4, .aload_n 0, 1), (5, .getfield 10, 3), (8, .invokevirtual 124, 3), (11, .ifCond .eq 7, 3), (14, .iconst 1, 1), (15, .goto 4, 3), (18, .iconst 0, 1), (19, .ireturn, 1)]
def tm_112 : tkM := (5, 0, 6, 158, tc_112) -- TickPlans.lively()I
def te_112 : tkE := (⟨"TickPlans", "lively", "()I"⟩, prog_1_method_16_code, 1, (some .int), false, 0, tm_112)
def tc_113 : tkT := [(0, .aload_n 0, 1), (1, .getfield 36, 3), (4, .aload_n 0, 1), (5, .getfield 10, 3), (8, .invokevirtual 127, 3), (11, .ireturn, 1)]
def tm_113 : tkM := (5, 0, 6, 158, tc_113) -- TickPlans.rounds()I
def te_113 : tkE := (⟨"TickPlans", "rounds", "()I"⟩, prog_1_method_17_code, 1, (some .int), false, 0, tm_113)
def tc_114 : tkT := [(0, .aload_n 0, 1), (1, .getfield 10, 3), (4, .iload_n 1, 1), (5, .invokevirtual 103, 3), (8, .ifCond .eq 28, 3), (11, .aload_n 0, 1), (12, .getfield 10, 3), (15, .iload_n 2, 1), (16, .invokevirtual 103, 3), (19, .ifCond .eq 17, 3), (22, .aload_n 0, 1), (23, .getfield 36, 3), (26, .aload_n 0, 1), (27, .getfield 10, 3), (30, .invokevirtual 124, 3), (33, .ifCond .ne 5, 3), (36, .lconst 0, 1), (37, .lreturn, 1), (38, .aload_n 0, 1), (39, .getfield 36, 3), (42, .iload_n 1, 1), (43, .iload_n 2, 1), (44, .invokevirtual 130, 3), (47, .lreturn, 1)]
def tm_114 : tkM := (5, 2, 6, 158, tc_114) -- TickPlans.edge(II)J
def te_114 : tkE := (⟨"TickPlans", "edge", "(II)J"⟩, prog_1_method_18_code, 3, (some .long), false, 2, tm_114)
def tc_115 : tkT := [(0, .aload_n 0, 1), (1, .getfield 10, 3), (4, .iload_n 1, 1), (5, .invokevirtual 103, 3), (8, .ifCond .eq 28, 3), (11, .aload_n 0, 1), (12, .getfield 10, 3), (15, .iload_n 2, 1), (16, .invokevirtual 118, 3), (19, .ifCond .eq 17, 3), (22, .aload_n 0, 1), (23, .getfield 36, 3), (26, .aload_n 0, 1), (27, .getfield 10, 3), (30, .invokevirtual 124, 3), (33, .ifCond .ne 5, 3), (36, .lconst 0, 1), (37, .lreturn, 1), (38, .aload_n 0, 1), (39, .getfield 36, 3), (42, .iload_n 1, 1), (43, .iload_n 2, 1), (44, .invokevirtual 133, 3), (47, .lreturn, 1)]
def tm_115 : tkM := (5, 2, 6, 158, tc_115) -- TickPlans.wait(II)J
def te_115 : tkE := (⟨"TickPlans", "wait", "(II)J"⟩, prog_1_method_19_code, 3, (some .long), false, 2, tm_115)
def tc_116 : tkT := [(0, .aload_n 0, 1), (1, .getfield 36, 3), (4, .aload_n 0, 1), (5, .getfield 10, 3), (8, .invokevirtual 124, 3), (11, .ifCond .ne 6, 3), (14, .bipush (-13), 2), (16, .ireturn, 1), (17, .aload_n 0, 1), (18, .getfield 43, 3), (21, .invokevirtual 136, 3), (24, .iconst 1, 1), (25, .ireturn, 1)]
def tm_116 : tkM := (5, 0, 6, 158, tc_116) -- TickPlans.start()I
def te_116 : tkE := (⟨"TickPlans", "start", "()I"⟩, prog_1_method_20_code, 1, (some .int), false, 0, tm_116)
def tc_117 : tkT := [(0, .aload_n 0, 1), (1, .getfield 10, 3), (4, .iload_n 1, 1), (5, .invokevirtual 103, 3), (8, .ifCond .ne 6, 3), (11, .bipush (-11), 2), (13, .ireturn, 1), (14, .aload_n 0, 1), (15, .getfield 43, 3), (18, .invokevirtual 139, 3), (21, .ifCond .eq 18, 3), (24, .aload_n 0, 1), (25, .getfield 43, 3), (28, .aload_n 0, 1), (29, .getfield 10, 3), (32, .iload_n 1, 1), (33, .invokevirtual 142, 3), (36, .ifCond .ne 6, 3), (39, .bipush (-13), 2), (41, .ireturn, 1), (42, .aload_n 0, 1), (43, .getfield 43, 3), (46, .iload_n 1, 1), (47, .invokevirtual 146, 3), (50, .iconst 1, 1), (51, .ireturn, 1)]
def tm_117 : tkM := (5, 0, 2, 46, tc_117) -- TickPlans.happen(I)I
def te_117 : tkE := (⟨"TickPlans", "happen", "(I)I"⟩, prog_1_method_21_code, 2, (some .int), false, 1, tm_117)
def tc_118 : tkT := [(0, .aload_n 0, 1), (1, .getfield 43, 3), (4, .invokevirtual 139, 3), (7, .ifCond .eq 17, 3), (10, .aload_n 0, 1), (11, .getfield 43, 3), (14, .aload_n 0, 1), (15, .getfield 10, 3), (18, .invokevirtual 149, 3), (21, .ifCond .eq 6, 3), (24, .bipush (-13), 2), (26, .ireturn, 1), (27, .aload_n 0, 1), (28, .getfield 43, 3), (31, .aload_n 0, 1), (32, .getfield 10, 3), (35, .aload_n 0, 1), (36, .getfield 36, 3), (39, .invokevirtual 152, 3), (42, .ireturn, 1)]
def tm_118 : tkM := (5, 0, 6, 148, tc_118) -- TickPlans.goOn()I
def te_118 : tkE := (⟨"TickPlans", "goOn", "()I"⟩, prog_1_method_22_code, 1, (some .int), false, 0, tm_118)
def tc_119 : tkT := [(0, .iload_n 1, 1), (1, .ifCond .lt 9, 3), (4, .iload_n 1, 1), (5, .ldc 156, 2), (7, .if_icmp .le 6, 3), (10, .bipush (-12), 2), (12, .ireturn, 1), (13, .aload_n 0, 1), (14, .getfield 43, 3), (17, .invokevirtual 139, 3), (20, .ifCond .eq 17, 3), (23, .aload_n 0, 1), (24, .getfield 43, 3), (27, .aload_n 0, 1), (28, .getfield 10, 3), (31, .invokevirtual 149, 3), (34, .ifCond .eq 6, 3), (37, .bipush (-13), 2), (39, .ireturn, 1), (40, .aload_n 0, 1), (41, .getfield 43, 3), (44, .aload_n 0, 1), (45, .getfield 10, 3), (48, .aload_n 0, 1), (49, .getfield 36, 3), (52, .iload_n 1, 1), (53, .invokevirtual 157, 3), (56, .ireturn, 1)]
def tm_119 : tkM := (5, 0, 5, 126, tc_119) -- TickPlans.idle(I)I
def te_119 : tkE := (⟨"TickPlans", "idle", "(I)I"⟩, prog_1_method_23_code, 2, (some .int), false, 1, tm_119)
def tc_120 : tkT := [(0, .aload_n 0, 1), (1, .getfield 10, 3), (4, .iload_n 1, 1), (5, .invokevirtual 103, 3), (8, .ifCond .ne 6, 3), (11, .bipush (-11), 2), (13, .ireturn, 1), (14, .aload_n 0, 1), (15, .getfield 43, 3), (18, .invokevirtual 139, 3), (21, .ifCond .eq 14, 3), (24, .aload_n 0, 1), (25, .getfield 43, 3), (28, .iload_n 1, 1), (29, .invokevirtual 161, 3), (32, .goto 5, 3), (35, .bipush (-13), 2), (37, .ireturn, 1)]
def tm_120 : tkM := (5, 0, 1, 21, tc_120) -- TickPlans.came(I)I
def te_120 : tkE := (⟨"TickPlans", "came", "(I)I"⟩, prog_1_method_24_code, 2, (some .int), false, 1, tm_120)
def tc_121 : tkT := [(0, .aload_n 0, 1), (1, .getfield 10, 3), (4, .iload_n 1, 1), (5, .invokevirtual 103, 3), (8, .ifCond .ne 6, 3), (11, .bipush (-11), 2), (13, .ireturn, 1), (14, .aload_n 0, 1), (15, .getfield 43, 3), (18, .invokevirtual 139, 3), (21, .ifCond .eq 18, 3), (24, .aload_n 0, 1), (25, .getfield 43, 3), (28, .aload_n 0, 1), (29, .getfield 10, 3), (32, .iload_n 1, 1), (33, .invokevirtual 164, 3), (36, .ifCond .ne 6, 3), (39, .bipush (-13), 2), (41, .ireturn, 1), (42, .aload_n 0, 1), (43, .getfield 43, 3), (46, .aload_n 0, 1), (47, .getfield 10, 3), (50, .aload_n 0, 1), (51, .getfield 36, 3), (54, .iload_n 1, 1), (55, .invokevirtual 167, 3), (58, .ifCond .eq 7, 3), (61, .iconst 1, 1), (62, .goto 4, 3), (65, .iconst 0, 1), (66, .ireturn, 1)]
def tm_121 : tkM := (5, 0, 5, 123, tc_121) -- TickPlans.may(I)I
def te_121 : tkE := (⟨"TickPlans", "may", "(I)I"⟩, prog_1_method_25_code, 2, (some .int), false, 1, tm_121)
def tc_122 : tkT := [(0, .aload_n 0, 1), (1, .getfield 43, 3), (4, .invokevirtual 139, 3), (7, .ifCond .eq 13, 3), (10, .aload_n 0, 1), (11, .getfield 43, 3), (14, .invokevirtual 171, 3), (17, .goto 5, 3), (20, .bipush (-13), 2), (22, .ireturn, 1)]
def tm_122 : tkM := (5, 0, 1, 20, tc_122) -- TickPlans.now()I
def te_122 : tkE := (⟨"TickPlans", "now", "()I"⟩, prog_1_method_26_code, 1, (some .int), false, 0, tm_122)
def tc_123 : tkT := [(0, .aload_n 0, 1), (1, .getfield 43, 3), (4, .invokevirtual 139, 3), (7, .ifCond .ne 6, 3), (10, .bipush (-13), 2), (12, .ireturn, 1), (13, .aload_n 0, 1), (14, .getfield 43, 3), (17, .invokevirtual 174, 3), (20, .aload_n 0, 1), (21, .getfield 10, 3), (24, .invokevirtual 177, 3), (27, .if_icmp .ge 5, 3), (30, .iconst 0, 1), (31, .ireturn, 1), (32, .aload_n 0, 1), (33, .getfield 43, 3), (36, .aload_n 0, 1), (37, .getfield 10, 3), (40, .invokevirtual 180, 3), (43, .istore_n 1, 1), (44, .iload_n 1, 1), (45, .bipush (-9), 2), (47, .if_icmp .ne 7, 3), (50, .iconst 1, 1), (51, .goto 7, 3), (54, .bipush (-20), 2), (56, .iload_n 1, 1), (57, .isub, 1), (58, .ireturn, 1)]
def tm_123 : tkM := (5, 0, 2, 44, tc_123) -- TickPlans.check()I
def te_123 : tkE := (⟨"TickPlans", "check", "()I"⟩, prog_1_method_27_code, 2, (some .int), false, 0, tm_123)
def tc_124 : tkT := [(0, .iload_n 1, 1), (1, .tableswitch 89 0 4 #[35, 43, 51, 59, 81], 35), (36, .aload_n 0, 1), (37, .getfield 10, 3), (40, .invokevirtual 177, 3), (43, .ireturn, 1), (44, .aload_n 0, 1), (45, .getfield 10, 3), (48, .invokevirtual 97, 3), (51, .ireturn, 1), (52, .aload_n 0, 1), (53, .getfield 10, 3), (56, .invokevirtual 183, 3), (59, .ireturn, 1), (60, .aload_n 0, 1), (61, .getfield 43, 3), (64, .invokevirtual 139, 3), (67, .ifCond .eq 13, 3), (70, .aload_n 0, 1), (71, .getfield 43, 3), (74, .invokevirtual 174, 3), (77, .goto 4, 3), (80, .iconst 0, 1), (81, .ireturn, 1), (82, .aload_n 0, 1), (83, .getfield 22, 3), (86, .invokevirtual 81, 3), (89, .ireturn, 1), (90, .bipush (-12), 2), (92, .ireturn, 1)]
def tm_124 : tkM := (5, 0, 1, 20, tc_124) -- TickPlans.told(I)I
def te_124 : tkE := (⟨"TickPlans", "told", "(I)I"⟩, prog_1_method_28_code, 2, (some .int), false, 1, tm_124)
def tc_125 : tkT := [(0, .iload_n 1, 1), (1, .ifCond .lt 24, 3), (4, .aload_n 0, 1), (5, .getfield 29, 3), (8, .invokevirtual 186, 3), (11, .aload_n 0, 1), (12, .getfield 36, 3), (15, .invokevirtual 189, 3), (18, .aload_n 0, 1), (19, .getfield 43, 3), (22, .invokevirtual 190, 3), (25, .iload_n 1, 1), (26, .ireturn, 1)]
def tm_125 : tkM := (5, 0, 1, 20, tc_125) -- TickPlans.afterChange(I)I
def te_125 : tkE := (⟨"TickPlans", "afterChange", "(I)I"⟩, prog_1_method_29_code, 2, (some .int), false, 1, tm_125)
def tc_126 : tkT := [(0, .iload_n 0, 1), (1, .iload_n 1, 1), (2, .if_icmp .lt 12, 3), (5, .iload_n 0, 1), (6, .iload_n 2, 1), (7, .if_icmp .gt 7, 3), (10, .iconst 1, 1), (11, .goto 4, 3), (14, .iconst 0, 1), (15, .ireturn, 1)]
def tm_126 : tkM := (6, 1, 0, 0, tc_126) -- TickPlansModel.in(III)Z
def te_126 : tkE := (⟨"TickPlansModel", "in", "(III)Z"⟩, prog_9_method_2_code, 3, (some .boolean), true, 3, tm_126)
def tc_127 : tkT := [(0, .aload_n 0, 1), (1, .iconst 0, 1), (2, .putfield 67, 3), (5, .aload_n 0, 1), (6, .iconst 0, 1), (7, .putfield 63, 3), (10, .return_, 1)]
def tm_127 : tkM := (6, 3, 0, 0, tc_127) -- TickPlansModel.changed()V
def te_127 : tkE := (⟨"TickPlansModel", "changed", "()V"⟩, prog_9_method_3_code, 1, none, false, 0, tm_127)
def tc_128 : tkT := [(0, .iload_n 1, 1), (1, .iconst 0, 1), (2, .aload_n 0, 1), (3, .getfield 70, 3), (6, .iconst 1, 1), (7, .isub, 1), (8, .invokestatic 74, 3), (11, .ifCond .ne 7, 3), (14, .iconst 1, 1), (15, .goto 4, 3), (18, .iconst 0, 1), (19, .ireturn, 1)]
def tm_128 : tkM := (6, 1, 1, 22, tc_128) -- TickPlansModel.noMoment(I)Z
def te_128 : tkE := (⟨"TickPlansModel", "noMoment", "(I)Z"⟩, prog_9_method_4_code, 2, (some .boolean), false, 1, tm_128)
def tc_129 : tkT := [(0, .iconst 0, 1), (1, .istore_n 2, 1), (2, .iload_n 2, 1), (3, .aload_n 0, 1), (4, .getfield 78, 3), (7, .if_icmp .ge 26, 3), (10, .aload_n 0, 1), (11, .getfield 13, 3), (14, .aload_n 0, 1), (15, .getfield 25, 3), (18, .iload_n 2, 1), (19, .iaload, 1), (20, .iaload, 1), (21, .iload_n 1, 1), (22, .if_icmp .ne 5, 3), (25, .iload_n 2, 1), (26, .ireturn, 1), (27, .iinc 2 1, 3), (30, .goto (-28), 3), (33, .iconst (-1), 1), (34, .ireturn, 1)]
def tm_129 : tkM := (6, 0, 0, 0, tc_129) -- TickPlansModel.giftTo(I)I
def te_129 : tkE := (⟨"TickPlansModel", "giftTo", "(I)I"⟩, prog_9_method_5_code, 3, (some .int), false, 1, tm_129)
def tc_130 : tkT := [(0, .iload_n 1, 1), (1, .iconst 1, 1), (2, .bipush 16, 2), (4, .invokestatic 74, 3), (7, .ifCond .ne 6, 3), (10, .bipush (-12), 2), (12, .ireturn, 1), (13, .aload_n 0, 1), (14, .getfield 70, 3), (17, .iload_n 1, 1), (18, .iadd, 1), (19, .bipush 16, 2), (21, .if_icmp .le 6, 3), (24, .bipush (-14), 2), (26, .ireturn, 1), (27, .aload_n 0, 1), (28, .dup, 1), (29, .getfield 70, 3), (32, .iload_n 1, 1), (33, .iadd, 1), (34, .putfield 70, 3), (37, .aload_n 0, 1), (38, .invokevirtual 81, 3), (41, .aload_n 0, 1), (42, .getfield 70, 3), (45, .ireturn, 1)]
def tm_130 : tkM := (6, 0, 1, 22, tc_130) -- TickPlansModel.moments(I)I
def te_130 : tkE := (⟨"TickPlansModel", "moments", "(I)I"⟩, prog_9_method_6_code, 2, (some .int), false, 1, tm_130)
def tc_131 : tkT := [(0, .iload_n 0, 1), (1, .ldc 84, 2), (3, .ldc 85, 2), (5, .invokestatic 74, 3), (8, .ifCond .eq 17, 3), (11, .iload_n 1, 1), (12, .iload_n 0, 1), (13, .ldc 85, 2), (15, .invokestatic 74, 3), (18, .ifCond .eq 7, 3), (21, .iconst 1, 1), (22, .goto 4, 3), (25, .iconst 0, 1), (26, .ireturn, 1)]
def tm_131 : tkM := (6, 1, 1, 22, tc_131) -- TickPlansModel.areBounds(II)Z
def te_131 : tkE := (⟨"TickPlansModel", "areBounds", "(II)Z"⟩, prog_9_method_7_code, 2, (some .boolean), true, 2, tm_131)
def tc_132 : tkT := [(0, .aload_n 0, 1), (1, .getfield 7, 3), (4, .aload_n 0, 1), (5, .getfield 86, 3), (8, .iload_n 1, 1), (9, .iastore, 1), (10, .aload_n 0, 1), (11, .getfield 13, 3), (14, .aload_n 0, 1), (15, .getfield 86, 3), (18, .iload_n 2, 1), (19, .iastore, 1), (20, .aload_n 0, 1), (21, .getfield 16, 3), (24, .aload_n 0, 1), (25, .getfield 86, 3), (28, .iload_n 3, 1), (29, .iastore, 1), (30, .aload_n 0, 1), (31, .getfield 19, 3), (34, .aload_n 0, 1), (35, .getfield 86, 3), (38, .iload 4, 2), (40, .iastore, 1), (41, .aload_n 0, 1), (42, .getfield 22, 3), (45, .aload_n 0, 1), (46, .getfield 86, 3), (49, .iload 5, 2), (51, .iastore, 1), (52, .aload_n 0, 1), (53, .dup, 1), (54, .getfield 86, 3), (57, .iconst 1, 1), (58, .iadd, 1), (59, .putfield 86, 3), (62, .aload_n 0, 1), (63, .invokevirtual 81, 3), (66, .aload_n 0, 1), (67, .getfield 86, 3), (70, .iconst 1, 1), (71, .isub, 1), (72, .ireturn, 1)]
def tm_132 : tkM := (6, 0, 1, 20, tc_132) -- TickPlansModel.added(IIIII)I
def te_132 : tkE := (⟨"TickPlansModel", "added", "(IIIII)I"⟩, prog_9_method_8_code, 6, (some .int), false, 5, tm_132)
def tc_133 : tkT := [(0, .aload_n 0, 1), (1, .iload_n 1, 1), (2, .invokevirtual 89, 3), (5, .ifCond .ne 11, 3), (8, .aload_n 0, 1), (9, .iload_n 2, 1), (10, .invokevirtual 89, 3), (13, .ifCond .eq 6, 3), (16, .bipush (-11), 2), (18, .ireturn, 1), (19, .iload_n 1, 1), (20, .iload_n 2, 1), (21, .if_icmp .ne 6, 3), (24, .bipush (-13), 2), (26, .ireturn, 1), (27, .iload_n 3, 1), (28, .iload 4, 2), (30, .invokestatic 93, 3), (33, .ifCond .ne 6, 3), (36, .bipush (-12), 2), (38, .ireturn, 1), (39, .aload_n 0, 1), (40, .getfield 86, 3), (43, .bipush 60, 2), (45, .if_icmp .ne 8, 3), (48, .bipush (-14), 2), (50, .goto 14, 3), (53, .aload_n 0, 1), (54, .iload_n 1, 1), (55, .iload_n 2, 1), (56, .iload_n 3, 1), (57, .iload 4, 2), (59, .bipush (-9), 2), (61, .invokevirtual 97, 3), (64, .ireturn, 1)]
def tm_133 : tkM := (6, 0, 2, 45, tc_133) -- TickPlansModel.wish(IIII)I
def te_133 : tkE := (⟨"TickPlansModel", "wish", "(IIII)I"⟩, prog_9_method_9_code, 5, (some .int), false, 4, tm_133)
def tc_134 : tkT := [(0, .iload_n 1, 1), (1, .istore_n 3, 1), (2, .iload_n 3, 1), (3, .iload_n 2, 1), (4, .if_icmp .eq 30, 3), (7, .aload_n 0, 1), (8, .iload_n 3, 1), (9, .invokevirtual 101, 3), (12, .ifCond .lt 22, 3), (15, .aload_n 0, 1), (16, .getfield 7, 3), (19, .aload_n 0, 1), (20, .getfield 25, 3), (23, .aload_n 0, 1), (24, .iload_n 3, 1), (25, .invokevirtual 101, 3), (28, .iaload, 1), (29, .iaload, 1), (30, .istore_n 3, 1), (31, .goto (-29), 3), (34, .iload_n 3, 1), (35, .iload_n 2, 1), (36, .if_icmp .ne 7, 3), (39, .iconst 1, 1), (40, .goto 4, 3), (43, .iconst 0, 1), (44, .ireturn, 1)]
def tm_134 : tkM := (6, 1, 1, 22, tc_134) -- TickPlansModel.comesFrom(II)Z
def te_134 : tkE := (⟨"TickPlansModel", "comesFrom", "(II)Z"⟩, prog_9_method_10_code, 4, (some .boolean), false, 2, tm_134)
def tc_135 : tkT := [(0, .aload_n 0, 1), (1, .iload_n 1, 1), (2, .invokevirtual 89, 3), (5, .ifCond .ne 11, 3), (8, .aload_n 0, 1), (9, .iload_n 2, 1), (10, .invokevirtual 89, 3), (13, .ifCond .eq 6, 3), (16, .bipush (-11), 2), (18, .ireturn, 1), (19, .iload_n 1, 1), (20, .iload_n 2, 1), (21, .if_icmp .ne 6, 3), (24, .bipush (-13), 2), (26, .ireturn, 1), (27, .iload_n 3, 1), (28, .iload 4, 2), (30, .invokestatic 93, 3), (33, .ifCond .eq 8, 3), (36, .iload_n 3, 1), (37, .iconst 1, 1), (38, .if_icmp .ge 6, 3), (41, .bipush (-12), 2), (43, .ireturn, 1), (44, .aload_n 0, 1), (45, .iload_n 2, 1), (46, .invokevirtual 101, 3), (49, .ifCond .ge 12, 3), (52, .aload_n 0, 1), (53, .iload_n 1, 1), (54, .iload_n 2, 1), (55, .invokevirtual 105, 3), (58, .ifCond .eq 6, 3), (61, .bipush (-13), 2), (63, .ireturn, 1), (64, .aload_n 0, 1), (65, .getfield 86, 3), (68, .bipush 60, 2), (70, .if_icmp .eq 12, 3), (73, .aload_n 0, 1), (74, .getfield 78, 3), (77, .bipush 6, 2), (79, .if_icmp .ne 6, 3), (82, .bipush (-14), 2), (84, .ireturn, 1), (85, .aload_n 0, 1), (86, .getfield 25, 3), (89, .aload_n 0, 1), (90, .getfield 78, 3), (93, .aload_n 0, 1), (94, .getfield 86, 3), (97, .iastore, 1), (98, .aload_n 0, 1), (99, .dup, 1), (100, .getfield 78, 3), (103, .iconst 1, 1), (104, .iadd, 1), (105, .putfield 78, 3), (108, .aload_n 0, 1), (109, .iload_n 1, 1), (110, .iload_n 2, 1), (111, .iload_n 3, 1), (112, .iload 4, 2), (114, .aload_n 0, 1), (115, .getfield 78, 3), (118, .iconst 1, 1), (119, .isub, 1), (120, .invokevirtual 97, 3), (123, .ireturn, 1)]
def tm_135 : tkM := (6, 0, 2, 45, tc_135) -- TickPlansModel.gift(IIII)I
def te_135 : tkE := (⟨"TickPlansModel", "gift", "(IIII)I"⟩, prog_9_method_11_code, 5, (some .int), false, 4, tm_135)
def tc_136 : tkT := [(0, .aload_n 0, 1), (1, .getfield 86, 3), (4, .ifCond .ne 6, 3), (7, .bipush (-13), 2), (9, .ireturn, 1), (10, .aload_n 0, 1), (11, .dup, 1), (12, .getfield 86, 3), (15, .iconst 1, 1), (16, .isub, 1), (17, .putfield 86, 3), (20, .aload_n 0, 1), (21, .dup, 1), (22, .getfield 78, 3), (25, .aload_n 0, 1), (26, .getfield 22, 3), (29, .aload_n 0, 1), (30, .getfield 86, 3), (33, .iaload, 1), (34, .ifCond .lt 7, 3), (37, .iconst 1, 1), (38, .goto 4, 3), (41, .iconst 0, 1), (42, .isub, 1), (43, .putfield 78, 3), (46, .aload_n 0, 1), (47, .invokevirtual 81, 3), (50, .aload_n 0, 1), (51, .getfield 86, 3), (54, .ireturn, 1)]
def tm_136 : tkM := (6, 0, 1, 20, tc_136) -- TickPlansModel.undo()I
def te_136 : tkE := (⟨"TickPlansModel", "undo", "()I"⟩, prog_9_method_12_code, 1, (some .int), false, 0, tm_136)
def tc_137 : tkT := [(0, .iload_n 1, 1), (1, .iconst 0, 1), (2, .aload_n 0, 1), (3, .getfield 86, 3), (6, .iconst 1, 1), (7, .isub, 1), (8, .invokestatic 74, 3), (11, .ifCond .ne 6, 3), (14, .bipush (-11), 2), (16, .ireturn, 1), (17, .iload_n 2, 1), (18, .iload_n 3, 1), (19, .invokestatic 93, 3), (22, .ifCond .eq 17, 3), (25, .aload_n 0, 1), (26, .getfield 22, 3), (29, .iload_n 1, 1), (30, .iaload, 1), (31, .ifCond .lt 11, 3), (34, .iload_n 2, 1), (35, .iconst 1, 1), (36, .if_icmp .ge 6, 3), (39, .bipush (-12), 2), (41, .ireturn, 1), (42, .aload_n 0, 1), (43, .getfield 16, 3), (46, .iload_n 1, 1), (47, .iload_n 2, 1), (48, .iastore, 1), (49, .aload_n 0, 1), (50, .getfield 19, 3), (53, .iload_n 1, 1), (54, .iload_n 3, 1), (55, .iastore, 1), (56, .aload_n 0, 1), (57, .invokevirtual 81, 3), (60, .iconst 1, 1), (61, .ireturn, 1)]
def tm_137 : tkM := (6, 0, 2, 43, tc_137) -- TickPlansModel.tighten(III)I
def te_137 : tkE := (⟨"TickPlansModel", "tighten", "(III)I"⟩, prog_9_method_13_code, 4, (some .int), false, 3, tm_137)
def tc_138 : tkT := [(0, .iload_n 1, 1), (1, .iconst 0, 1), (2, .aload_n 0, 1), (3, .getfield 86, 3), (6, .iconst 1, 1), (7, .isub, 1), (8, .invokestatic 74, 3), (11, .ifCond .ne 6, 3), (14, .bipush (-11), 2), (16, .ireturn, 1), (17, .iload_n 2, 1), (18, .tableswitch 69 0 4 #[34, 41, 48, 55, 62], 34), (52, .aload_n 0, 1), (53, .getfield 7, 3), (56, .iload_n 1, 1), (57, .iaload, 1), (58, .ireturn, 1), (59, .aload_n 0, 1), (60, .getfield 13, 3), (63, .iload_n 1, 1), (64, .iaload, 1), (65, .ireturn, 1), (66, .aload_n 0, 1), (67, .getfield 16, 3), (70, .iload_n 1, 1), (71, .iaload, 1), (72, .ireturn, 1), (73, .aload_n 0, 1), (74, .getfield 19, 3), (77, .iload_n 1, 1), (78, .iaload, 1), (79, .ireturn, 1), (80, .aload_n 0, 1), (81, .getfield 22, 3), (84, .iload_n 1, 1), (85, .iaload, 1), (86, .ireturn, 1), (87, .bipush (-12), 2), (89, .ireturn, 1)]
def tm_138 : tkM := (6, 0, 1, 22, tc_138) -- TickPlansModel.link(II)I
def te_138 : tkE := (⟨"TickPlansModel", "link", "(II)I"⟩, prog_9_method_14_code, 3, (some .int), false, 2, tm_138)
def tc_139 : tkT := [(0, .aload_n 0, 1), (1, .getfield 108, 3), (4, .bipush 20, 2), (6, .iadd, 1), (7, .sipush 1000, 3), (10, .if_icmp .le 6, 3), (13, .bipush (-14), 2), (15, .ireturn, 1), (16, .bipush 24, 2), (18, .istore 6, 2), (20, .iload 6, 2), (22, .ifCond .lt 96, 3), (25, .aload_n 0, 1), (26, .getfield 108, 3), (29, .iconst 3, 1), (30, .iadd, 1), (31, .iload 6, 2), (33, .bipush 8, 2), (35, .idiv, 1), (36, .isub, 1), (37, .istore 7, 2), (39, .aload_n 0, 1), (40, .getfield 31, 3), (43, .iload 7, 2), (45, .iload_n 1, 1), (46, .iload 6, 2), (48, .ishr, 1), (49, .i2b, 1), (50, .bastore, 1), (51, .aload_n 0, 1), (52, .getfield 31, 3), (55, .iload 7, 2), (57, .iconst 4, 1), (58, .iadd, 1), (59, .iload_n 2, 1), (60, .iload 6, 2), (62, .ishr, 1), (63, .i2b, 1), (64, .bastore, 1), (65, .aload_n 0, 1), (66, .getfield 31, 3), (69, .iload 7, 2), (71, .bipush 8, 2), (73, .iadd, 1), (74, .iload_n 3, 1), (75, .iload 6, 2), (77, .ishr, 1), (78, .i2b, 1), (79, .bastore, 1), (80, .aload_n 0, 1), (81, .getfield 31, 3), (84, .iload 7, 2), (86, .bipush 12, 2), (88, .iadd, 1), (89, .iload 4, 2), (91, .iload 6, 2), (93, .ishr, 1), (94, .i2b, 1), (95, .bastore, 1), (96, .aload_n 0, 1), (97, .getfield 31, 3), (100, .iload 7, 2), (102, .bipush 16, 2), (104, .iadd, 1), (105, .iload 5, 2), (107, .iload 6, 2), (109, .ishr, 1), (110, .i2b, 1), (111, .bastore, 1), (112, .iinc 6 (-8), 3), (115, .goto (-95), 3), (118, .aload_n 0, 1), (119, .dup, 1), (120, .getfield 108, 3), (123, .bipush 20, 2), (125, .iadd, 1), (126, .putfield 108, 3), (129, .aload_n 0, 1), (130, .getfield 108, 3), (133, .ireturn, 1)]
def tm_139 : tkM := (6, 0, 0, 0, tc_139) -- TickPlansModel.feed(IIIII)I
def te_139 : tkE := (⟨"TickPlansModel", "feed", "(IIIII)I"⟩, prog_9_method_15_code, 8, (some .int), false, 5, tm_139)
def tc_140 : tkT := [(0, .iload_n 1, 1), (1, .iconst 0, 1), (2, .aload_n 0, 1), (3, .getfield 108, 3), (6, .invokestatic 74, 3), (9, .ifCond .ne 6, 3), (12, .bipush (-12), 2), (14, .ireturn, 1), (15, .aload_n 0, 1), (16, .iload_n 1, 1), (17, .putfield 108, 3), (20, .iload_n 1, 1), (21, .ireturn, 1)]
def tm_140 : tkM := (6, 0, 1, 22, tc_140) -- TickPlansModel.trim(I)I
def te_140 : tkE := (⟨"TickPlansModel", "trim", "(I)I"⟩, prog_9_method_16_code, 2, (some .int), false, 1, tm_140)
def tc_141 : tkT := [(0, .iload_n 1, 1), (1, .aload_n 0, 1), (2, .getfield 108, 3), (5, .if_icmp .ge 29, 3), (8, .aload_n 0, 1), (9, .getfield 31, 3), (12, .iload_n 1, 1), (13, .baload, 1), (14, .bipush 48, 2), (16, .if_icmp .lt 18, 3), (19, .aload_n 0, 1), (20, .getfield 31, 3), (23, .iload_n 1, 1), (24, .baload, 1), (25, .bipush 57, 2), (27, .if_icmp .gt 7, 3), (30, .iconst 1, 1), (31, .goto 4, 3), (34, .iconst 0, 1), (35, .ireturn, 1)]
def tm_141 : tkM := (6, 1, 0, 0, tc_141) -- TickPlansModel.isFigure(I)Z
def te_141 : tkE := (⟨"TickPlansModel", "isFigure", "(I)Z"⟩, prog_9_method_17_code, 2, (some .boolean), false, 1, tm_141)
def tc_142 : tkT := [(0, .aload_n 0, 1), (1, .getfield 111, 3), (4, .aload_n 0, 1), (5, .getfield 108, 3), (8, .if_icmp .ge 44, 3), (11, .aload_n 0, 1), (12, .getfield 31, 3), (15, .aload_n 0, 1), (16, .getfield 111, 3), (19, .baload, 1), (20, .bipush 32, 2), (22, .if_icmp .eq 17, 3), (25, .aload_n 0, 1), (26, .getfield 31, 3), (29, .aload_n 0, 1), (30, .getfield 111, 3), (33, .baload, 1), (34, .bipush 10, 2), (36, .if_icmp .ne 16, 3), (39, .aload_n 0, 1), (40, .dup, 1), (41, .getfield 111, 3), (44, .iconst 1, 1), (45, .iadd, 1), (46, .putfield 111, 3), (49, .goto (-49), 3), (52, .aload_n 0, 1), (53, .aload_n 0, 1), (54, .getfield 111, 3), (57, .putfield 114, 3), (60, .aload_n 0, 1), (61, .getfield 111, 3), (64, .aload_n 0, 1), (65, .getfield 108, 3), (68, .if_icmp .ne 9, 3), (71, .aload_n 0, 1), (72, .iconst (-1), 1), (73, .putfield 117, 3), (76, .return_, 1), (77, .aload_n 0, 1), (78, .getfield 31, 3), (81, .aload_n 0, 1), (82, .getfield 111, 3), (85, .baload, 1), (86, .bipush 45, 2), (88, .if_icmp .ne 20, 3), (91, .aload_n 0, 1), (92, .aload_n 0, 1), (93, .getfield 111, 3), (96, .iconst 1, 1), (97, .iadd, 1), (98, .invokevirtual 120, 3), (101, .ifCond .eq 7, 3), (104, .iconst 1, 1), (105, .goto 4, 3), (108, .iconst 0, 1), (109, .istore_n 1, 1), (110, .iload_n 1, 1), (111, .ifCond .ne 69, 3), (114, .aload_n 0, 1), (115, .aload_n 0, 1), (116, .getfield 111, 3), (119, .invokevirtual 120, 3), (122, .ifCond .ne 58, 3), (125, .aload_n 0, 1), (126, .getfield 31, 3), (129, .aload_n 0, 1), (130, .getfield 111, 3), (133, .baload, 1), (134, .istore_n 2, 1), (135, .aload_n 0, 1), (136, .iload_n 2, 1), (137, .bipush 109, 2), (139, .if_icmp .eq 21, 3), (142, .iload_n 2, 1), (143, .bipush 119, 2), (145, .if_icmp .eq 15, 3), (148, .iload_n 2, 1), (149, .bipush 103, 2), (151, .if_icmp .eq 9, 3), (154, .iload_n 2, 1), (155, .bipush 59, 2), (157, .if_icmp .ne 7, 3), (160, .iload_n 2, 1), (161, .goto 5, 3), (164, .bipush (-2), 2), (166, .putfield 117, 3), (169, .aload_n 0, 1), (170, .dup, 1), (171, .getfield 111, 3), (174, .iconst 1, 1), (175, .iadd, 1), (176, .putfield 111, 3), (179, .return_, 1), (180, .aload_n 0, 1), (181, .dup, 1), (182, .getfield 111, 3), (185, .iload_n 1, 1), (186, .iadd, 1), (187, .putfield 111, 3), (190, .iconst 0, 1), (191, .istore_n 2, 1), (192, .aload_n 0, 1), (193, .iconst 0, 1), (194, .putfield 123, 3), (197, .aload_n 0, 1), (198, .aload_n 0, 1), (199, .getfield 111, 3), (202, .invokevirtual 120, 3), (205, .ifCond .eq 56, 3), (208, .aload_n 0, 1), (209, .iload_n 2, 1), (210, .bipush 6, 2), (212, .if_icmp .ge 26, 3), (215, .bipush 10, 2), (217, .aload_n 0, 1), (218, .getfield 123, 3), (221, .imul, 1), (222, .aload_n 0, 1), (223, .getfield 31, 3), (226, .aload_n 0, 1), (227, .getfield 111, 3), (230, .baload, 1), (231, .iadd, 1), (232, .bipush 48, 2), (234, .isub, 1), (235, .goto 7, 3), (238, .aload_n 0, 1), (239, .getfield 123, 3), (242, .putfield 123, 3), (245, .iinc 2 1, 3), (248, .aload_n 0, 1), (249, .dup, 1), (250, .getfield 111, 3), (253, .iconst 1, 1), (254, .iadd, 1), (255, .putfield 111, 3), (258, .goto (-61), 3), (261, .aload_n 0, 1), (262, .iload_n 1, 1), (263, .iconst 1, 1), (264, .if_icmp .ne 11, 3), (267, .aload_n 0, 1), (268, .getfield 123, 3), (271, .ineg, 1), (272, .goto 7, 3), (275, .aload_n 0, 1), (276, .getfield 123, 3), (279, .putfield 123, 3), (282, .aload_n 0, 1), (283, .iload_n 2, 1), (284, .bipush 6, 2), (286, .if_icmp .le 8, 3), (289, .bipush (-2), 2), (291, .goto 5, 3), (294, .bipush (-3), 2), (296, .putfield 117, 3), (299, .return_, 1)]
def tm_142 : tkM := (6, 3, 1, 21, tc_142) -- TickPlansModel.next()V
def te_142 : tkE := (⟨"TickPlansModel", "next", "()V"⟩, prog_9_method_18_code, 3, none, false, 0, tm_142)
def tc_143 : tkT := [(0, .iconst 0, 1), (1, .istore_n 2, 1), (2, .iload_n 2, 1), (3, .iload_n 1, 1), (4, .if_icmp .ge 42, 3), (7, .aload_n 0, 1), (8, .invokevirtual 126, 3), (11, .aload_n 0, 1), (12, .getfield 117, 3), (15, .bipush (-3), 2), (17, .if_icmp .eq 13, 3), (20, .aload_n 0, 1), (21, .aload_n 0, 1), (22, .getfield 114, 3), (25, .putfield 129, 3), (28, .iconst 0, 1), (29, .ireturn, 1), (30, .aload_n 0, 1), (31, .getfield 35, 3), (34, .iload_n 2, 1), (35, .aload_n 0, 1), (36, .getfield 123, 3), (39, .iastore, 1), (40, .iinc 2 1, 3), (43, .goto (-41), 3), (46, .aload_n 0, 1), (47, .invokevirtual 126, 3), (50, .aload_n 0, 1), (51, .aload_n 0, 1), (52, .getfield 114, 3), (55, .putfield 129, 3), (58, .aload_n 0, 1), (59, .getfield 117, 3), (62, .bipush 59, 2), (64, .if_icmp .ne 7, 3), (67, .iconst 1, 1), (68, .goto 4, 3), (71, .iconst 0, 1), (72, .ireturn, 1)]
def tm_143 : tkM := (6, 1, 2, 43, tc_143) -- TickPlansModel.takes(I)Z
def te_143 : tkE := (⟨"TickPlansModel", "takes", "(I)Z"⟩, prog_9_method_19_code, 3, (some .boolean), false, 1, tm_143)
def tc_144 : tkT := [(0, .aload_n 0, 1), (1, .getfield 117, 3), (4, .istore_n 1, 1), (5, .iload_n 1, 1), (6, .bipush 109, 2), (8, .if_icmp .eq 25, 3), (11, .iload_n 1, 1), (12, .bipush 119, 2), (14, .if_icmp .eq 19, 3), (17, .iload_n 1, 1), (18, .bipush 103, 2), (20, .if_icmp .eq 13, 3), (23, .aload_n 0, 1), (24, .aload_n 0, 1), (25, .getfield 114, 3), (28, .putfield 129, 3), (31, .iconst 0, 1), (32, .ireturn, 1), (33, .aload_n 0, 1), (34, .iload_n 1, 1), (35, .bipush 109, 2), (37, .if_icmp .ne 7, 3), (40, .iconst 1, 1), (41, .goto 4, 3), (44, .iconst 4, 1), (45, .invokevirtual 132, 3), (48, .ifCond .ne 5, 3), (51, .iconst 0, 1), (52, .ireturn, 1), (53, .iload_n 1, 1), (54, .bipush 109, 2), (56, .if_icmp .ne 16, 3), (59, .aload_n 0, 1), (60, .aload_n 0, 1), (61, .getfield 35, 3), (64, .iconst 0, 1), (65, .iaload, 1), (66, .invokevirtual 135, 3), (69, .goto 68, 3), (72, .iload_n 1, 1), (73, .bipush 119, 2), (75, .if_icmp .ne 34, 3), (78, .aload_n 0, 1), (79, .aload_n 0, 1), (80, .getfield 35, 3), (83, .iconst 0, 1), (84, .iaload, 1), (85, .aload_n 0, 1), (86, .getfield 35, 3), (89, .iconst 1, 1), (90, .iaload, 1), (91, .aload_n 0, 1), (92, .getfield 35, 3), (95, .iconst 2, 1), (96, .iaload, 1), (97, .aload_n 0, 1), (98, .getfield 35, 3), (101, .iconst 3, 1), (102, .iaload, 1), (103, .invokevirtual 137, 3), (106, .goto 31, 3), (109, .aload_n 0, 1), (110, .aload_n 0, 1), (111, .getfield 35, 3), (114, .iconst 0, 1), (115, .iaload, 1), (116, .aload_n 0, 1), (117, .getfield 35, 3), (120, .iconst 1, 1), (121, .iaload, 1), (122, .aload_n 0, 1), (123, .getfield 35, 3), (126, .iconst 2, 1), (127, .iaload, 1), (128, .aload_n 0, 1), (129, .getfield 35, 3), (132, .iconst 3, 1), (133, .iaload, 1), (134, .invokevirtual 141, 3), (137, .istore_n 2, 1), (138, .iload_n 2, 1), (139, .ifCond .lt 7, 3), (142, .iconst 1, 1), (143, .goto 4, 3), (146, .iconst 0, 1), (147, .ireturn, 1)]
def tm_144 : tkM := (6, 1, 3, 69, tc_144) -- TickPlansModel.item()Z
def te_144 : tkE := (⟨"TickPlansModel", "item", "()Z"⟩, prog_9_method_20_code, 3, (some .boolean), false, 0, tm_144)
def tc_145 : tkT := [(0, .aload_n 0, 1), (1, .getfield 28, 3), (4, .iconst 0, 1), (5, .aload_n 0, 1), (6, .getfield 70, 3), (9, .iastore, 1), (10, .aload_n 0, 1), (11, .getfield 28, 3), (14, .iconst 1, 1), (15, .aload_n 0, 1), (16, .getfield 86, 3), (19, .iastore, 1), (20, .aload_n 0, 1), (21, .getfield 28, 3), (24, .iconst 2, 1), (25, .aload_n 0, 1), (26, .getfield 78, 3), (29, .iastore, 1), (30, .iconst 0, 1), (31, .istore_n 1, 1), (32, .iload_n 1, 1), (33, .aload_n 0, 1), (34, .getfield 86, 3), (37, .if_icmp .ge 91, 3), (40, .aload_n 0, 1), (41, .getfield 28, 3), (44, .iconst 5, 1), (45, .iload_n 1, 1), (46, .imul, 1), (47, .iconst 3, 1), (48, .iadd, 1), (49, .aload_n 0, 1), (50, .getfield 7, 3), (53, .iload_n 1, 1), (54, .iaload, 1), (55, .iastore, 1), (56, .aload_n 0, 1), (57, .getfield 28, 3), (60, .iconst 5, 1), (61, .iload_n 1, 1), (62, .imul, 1), (63, .iconst 4, 1), (64, .iadd, 1), (65, .aload_n 0, 1), (66, .getfield 13, 3), (69, .iload_n 1, 1), (70, .iaload, 1), (71, .iastore, 1), (72, .aload_n 0, 1), (73, .getfield 28, 3), (76, .iconst 5, 1), (77, .iload_n 1, 1), (78, .imul, 1), (79, .iconst 5, 1), (80, .iadd, 1), (81, .aload_n 0, 1), (82, .getfield 16, 3), (85, .iload_n 1, 1), (86, .iaload, 1), (87, .iastore, 1), (88, .aload_n 0, 1), (89, .getfield 28, 3), (92, .iconst 5, 1), (93, .iload_n 1, 1), (94, .imul, 1), (95, .bipush 6, 2), (97, .iadd, 1), (98, .aload_n 0, 1), (99, .getfield 19, 3), (102, .iload_n 1, 1), (103, .iaload, 1), (104, .iastore, 1), (105, .aload_n 0, 1), (106, .getfield 28, 3), (109, .iconst 5, 1), (110, .iload_n 1, 1), (111, .imul, 1), (112, .bipush 7, 2), (114, .iadd, 1), (115, .aload_n 0, 1), (116, .getfield 22, 3), (119, .iload_n 1, 1), (120, .iaload, 1), (121, .iastore, 1), (122, .iinc 1 1, 3), (125, .goto (-93), 3), (128, .iconst 0, 1), (129, .istore_n 1, 1), (130, .iload_n 1, 1), (131, .aload_n 0, 1), (132, .getfield 78, 3), (135, .if_icmp .ge 25, 3), (138, .aload_n 0, 1), (139, .getfield 28, 3), (142, .sipush 310, 3), (145, .iload_n 1, 1), (146, .iadd, 1), (147, .aload_n 0, 1), (148, .getfield 25, 3), (151, .iload_n 1, 1), (152, .iaload, 1), (153, .iastore, 1), (154, .iinc 1 1, 3), (157, .goto (-27), 3), (160, .return_, 1)]
def tm_145 : tkM := (6, 3, 0, 0, tc_145) -- TickPlansModel.keep()V
def te_145 : tkE := (⟨"TickPlansModel", "keep", "()V"⟩, prog_9_method_21_code, 2, none, false, 0, tm_145)
def tc_146 : tkT := [(0, .aload_n 0, 1), (1, .aload_n 0, 1), (2, .getfield 28, 3), (5, .iconst 0, 1), (6, .iaload, 1), (7, .putfield 70, 3), (10, .aload_n 0, 1), (11, .aload_n 0, 1), (12, .getfield 28, 3), (15, .iconst 1, 1), (16, .iaload, 1), (17, .putfield 86, 3), (20, .aload_n 0, 1), (21, .aload_n 0, 1), (22, .getfield 28, 3), (25, .iconst 2, 1), (26, .iaload, 1), (27, .putfield 78, 3), (30, .iconst 0, 1), (31, .istore_n 1, 1), (32, .iload_n 1, 1), (33, .aload_n 0, 1), (34, .getfield 86, 3), (37, .if_icmp .ge 91, 3), (40, .aload_n 0, 1), (41, .getfield 7, 3), (44, .iload_n 1, 1), (45, .aload_n 0, 1), (46, .getfield 28, 3), (49, .iconst 5, 1), (50, .iload_n 1, 1), (51, .imul, 1), (52, .iconst 3, 1), (53, .iadd, 1), (54, .iaload, 1), (55, .iastore, 1), (56, .aload_n 0, 1), (57, .getfield 13, 3), (60, .iload_n 1, 1), (61, .aload_n 0, 1), (62, .getfield 28, 3), (65, .iconst 5, 1), (66, .iload_n 1, 1), (67, .imul, 1), (68, .iconst 4, 1), (69, .iadd, 1), (70, .iaload, 1), (71, .iastore, 1), (72, .aload_n 0, 1), (73, .getfield 16, 3), (76, .iload_n 1, 1), (77, .aload_n 0, 1), (78, .getfield 28, 3), (81, .iconst 5, 1), (82, .iload_n 1, 1), (83, .imul, 1), (84, .iconst 5, 1), (85, .iadd, 1), (86, .iaload, 1), (87, .iastore, 1), (88, .aload_n 0, 1), (89, .getfield 19, 3), (92, .iload_n 1, 1), (93, .aload_n 0, 1), (94, .getfield 28, 3), (97, .iconst 5, 1), (98, .iload_n 1, 1), (99, .imul, 1), (100, .bipush 6, 2), (102, .iadd, 1), (103, .iaload, 1), (104, .iastore, 1), (105, .aload_n 0, 1), (106, .getfield 22, 3), (109, .iload_n 1, 1), (110, .aload_n 0, 1), (111, .getfield 28, 3), (114, .iconst 5, 1), (115, .iload_n 1, 1), (116, .imul, 1), (117, .bipush 7, 2), (119, .iadd, 1), (120, .iaload, 1), (121, .iastore, 1), (122, .iinc 1 1, 3), (125, .goto (-93), 3), (128, .iconst 0, 1), (129, .istore_n 1, 1), (130, .iload_n 1, 1), (131, .aload_n 0, 1), (132, .getfield 78, 3), (135, .if_icmp .ge 25, 3), (138, .aload_n 0, 1), (139, .getfield 25, 3), (142, .iload_n 1, 1), (143, .aload_n 0, 1), (144, .getfield 28, 3), (147, .sipush 310, 3), (150, .iload_n 1, 1), (151, .iadd, 1), (152, .iaload, 1), (153, .iastore, 1), (154, .iinc 1 1, 3), (157, .goto (-27), 3), (160, .return_, 1)]
def tm_146 : tkM := (6, 3, 0, 0, tc_146) -- TickPlansModel.bringBack()V
def te_146 : tkE := (⟨"TickPlansModel", "bringBack", "()V"⟩, prog_9_method_22_code, 2, none, false, 0, tm_146)
def tc_147 : tkT := [(0, .aload_n 0, 1), (1, .getfield 67, 3), (4, .istore_n 1, 1), (5, .aload_n 0, 1), (6, .getfield 63, 3), (9, .istore_n 2, 1), (10, .aload_n 0, 1), (11, .invokevirtual 144, 3), (14, .aload_n 0, 1), (15, .iconst 0, 1), (16, .putfield 70, 3), (19, .aload_n 0, 1), (20, .iconst 0, 1), (21, .putfield 86, 3), (24, .aload_n 0, 1), (25, .iconst 0, 1), (26, .putfield 78, 3), (29, .aload_n 0, 1), (30, .iconst 0, 1), (31, .putfield 111, 3), (34, .iconst 1, 1), (35, .istore_n 3, 1), (36, .aload_n 0, 1), (37, .invokevirtual 126, 3), (40, .iload_n 3, 1), (41, .ifCond .eq 27, 3), (44, .aload_n 0, 1), (45, .getfield 117, 3), (48, .iconst (-1), 1), (49, .if_icmp .eq 19, 3), (52, .aload_n 0, 1), (53, .invokevirtual 147, 3), (56, .istore_n 3, 1), (57, .iload_n 3, 1), (58, .ifCond .eq (-18), 3), (61, .aload_n 0, 1), (62, .invokevirtual 126, 3), (65, .goto (-25), 3), (68, .aload_n 0, 1), (69, .iconst 0, 1), (70, .putfield 108, 3), (73, .iload_n 3, 1), (74, .ifCond .ne 25, 3), (77, .aload_n 0, 1), (78, .invokevirtual 151, 3), (81, .aload_n 0, 1), (82, .iload_n 1, 1), (83, .putfield 67, 3), (86, .aload_n 0, 1), (87, .iload_n 2, 1), (88, .putfield 63, 3), (91, .bipush (-20), 2), (93, .aload_n 0, 1), (94, .getfield 129, 3), (97, .isub, 1), (98, .ireturn, 1), (99, .aload_n 0, 1), (100, .invokevirtual 81, 3), (103, .aload_n 0, 1), (104, .getfield 86, 3), (107, .ireturn, 1)]
def tm_147 : tkM := (6, 0, 4, 91, tc_147) -- TickPlansModel.read()I
def te_147 : tkE := (⟨"TickPlansModel", "read", "()I"⟩, prog_9_method_23_code, 4, (some .int), false, 0, tm_147)
def tc_148 : tkT := [(0, .iconst 0, 1), (1, .istore_n 2, 1), (2, .iload_n 2, 1), (3, .iload_n 1, 1), (4, .if_icmp .ge 45, 3), (7, .iconst 0, 1), (8, .istore_n 3, 1), (9, .iload_n 3, 1), (10, .iload_n 1, 1), (11, .if_icmp .ge 32, 3), (14, .aload_n 0, 1), (15, .getfield 38, 3), (18, .bipush 16, 2), (20, .iload_n 2, 1), (21, .imul, 1), (22, .iload_n 3, 1), (23, .iadd, 1), (24, .iload_n 2, 1), (25, .iload_n 3, 1), (26, .if_icmp .ne 7, 3), (29, .lconst 0, 1), (30, .goto 6, 3), (33, .ldc2_w 154, 3), (36, .lastore, 1), (37, .iinc 3 1, 3), (40, .goto (-31), 3), (43, .iinc 2 1, 3), (46, .goto (-44), 3), (49, .return_, 1)]
def tm_148 : tkM := (6, 3, 0, 0, tc_148) -- TickPlansModel.clearWays(I)V
def te_148 : tkE := (⟨"TickPlansModel", "clearWays", "(I)V"⟩, prog_9_method_24_code, 4, none, false, 1, tm_148)
def tc_149 : tkT := [(0, .aload_n 0, 1), (1, .getfield 38, 3), (4, .bipush 16, 2), (6, .iload_n 1, 1), (7, .imul, 1), (8, .iload_n 2, 1), (9, .iadd, 1), (10, .lload_n 3, 1), (11, .aload_n 0, 1), (12, .getfield 38, 3), (15, .bipush 16, 2), (17, .iload_n 1, 1), (18, .imul, 1), (19, .iload_n 2, 1), (20, .iadd, 1), (21, .laload, 1), (22, .lcmp, 1), (23, .ifCond .ge 7, 3), (26, .lload_n 3, 1), (27, .goto 14, 3), (30, .aload_n 0, 1), (31, .getfield 38, 3), (34, .bipush 16, 2), (36, .iload_n 1, 1), (37, .imul, 1), (38, .iload_n 2, 1), (39, .iadd, 1), (40, .laload, 1), (41, .lastore, 1), (42, .return_, 1)]
def tm_149 : tkM := (6, 3, 0, 0, tc_149) -- TickPlansModel.step(IIJ)V
def te_149 : tkE := (⟨"TickPlansModel", "step", "(IIJ)V"⟩, prog_9_method_25_code, 5, none, false, 3, tm_149)
def tc_150 : tkT := [(0, .iconst 0, 1), (1, .istore_n 2, 1), (2, .iload_n 2, 1), (3, .iload_n 1, 1), (4, .if_icmp .ge 105, 3), (7, .iconst 0, 1), (8, .istore_n 3, 1), (9, .iload_n 3, 1), (10, .iload_n 1, 1), (11, .if_icmp .ge 92, 3), (14, .iconst 0, 1), (15, .istore 4, 2), (17, .iload 4, 2), (19, .iload_n 1, 1), (20, .if_icmp .ge 77, 3), (23, .aload_n 0, 1), (24, .getfield 38, 3), (27, .bipush 16, 2), (29, .iload_n 3, 1), (30, .imul, 1), (31, .iload_n 2, 1), (32, .iadd, 1), (33, .laload, 1), (34, .ldc2_w 154, 3), (37, .lcmp, 1), (38, .ifCond .eq 59, 3), (41, .aload_n 0, 1), (42, .getfield 38, 3), (45, .bipush 16, 2), (47, .iload_n 2, 1), (48, .imul, 1), (49, .iload 4, 2), (51, .iadd, 1), (52, .laload, 1), (53, .ldc2_w 154, 3), (56, .lcmp, 1), (57, .ifCond .eq 34, 3), (60, .aload_n 0, 1), (61, .iload_n 3, 1), (62, .iload 4, 2), (64, .aload_n 0, 1), (65, .getfield 38, 3), (68, .bipush 16, 2), (70, .iload_n 3, 1), (71, .imul, 1), (72, .iload_n 2, 1), (73, .iadd, 1), (74, .laload, 1), (75, .aload_n 0, 1), (76, .getfield 38, 3), (79, .bipush 16, 2), (81, .iload_n 2, 1), (82, .imul, 1), (83, .iload 4, 2), (85, .iadd, 1), (86, .laload, 1), (87, .ladd, 1), (88, .invokevirtual 156, 3), (91, .iinc 4 1, 3), (94, .goto (-77), 3), (97, .iinc 3 1, 3), (100, .goto (-91), 3), (103, .iinc 2 1, 3), (106, .goto (-104), 3), (109, .iconst 1, 1), (110, .istore_n 2, 1), (111, .iconst 0, 1), (112, .istore_n 3, 1), (113, .iload_n 3, 1), (114, .iload_n 1, 1), (115, .if_icmp .ge 33, 3), (118, .iload_n 2, 1), (119, .ifCond .eq 21, 3), (122, .aload_n 0, 1), (123, .getfield 38, 3), (126, .bipush 17, 2), (128, .iload_n 3, 1), (129, .imul, 1), (130, .laload, 1), (131, .lconst 0, 1), (132, .lcmp, 1), (133, .ifCond .lt 7, 3), (136, .iconst 1, 1), (137, .goto 4, 3), (140, .iconst 0, 1), (141, .istore_n 2, 1), (142, .iinc 3 1, 3), (145, .goto (-32), 3), (148, .iload_n 2, 1), (149, .ireturn, 1)]
def tm_150 : tkM := (6, 1, 1, 24, tc_150) -- TickPlansModel.closes(I)Z
def te_150 : tkE := (⟨"TickPlansModel", "closes", "(I)Z"⟩, prog_9_method_26_code, 5, (some .boolean), false, 1, tm_150)
def tc_151 : tkT := [(0, .aload_n 0, 1), (1, .aload_n 0, 1), (2, .getfield 70, 3), (5, .invokevirtual 160, 3), (8, .iconst 0, 1), (9, .istore_n 2, 1), (10, .iload_n 2, 1), (11, .aload_n 0, 1), (12, .getfield 86, 3), (15, .if_icmp .ge 135, 3), (18, .aload_n 0, 1), (19, .getfield 22, 3), (22, .iload_n 2, 1), (23, .iaload, 1), (24, .istore_n 3, 1), (25, .iload_n 1, 1), (26, .ifCond .lt 11, 3), (29, .iload_n 3, 1), (30, .ifCond .lt 7, 3), (33, .iconst 1, 1), (34, .goto 4, 3), (37, .iconst 0, 1), (38, .istore 4, 2), (40, .iload 4, 2), (42, .ifCond .eq 16, 3), (45, .iload_n 1, 1), (46, .iload_n 3, 1), (47, .ishr, 1), (48, .iconst 1, 1), (49, .iand, 1), (50, .iconst 1, 1), (51, .if_icmp .ne 7, 3), (54, .iconst 1, 1), (55, .goto 4, 3), (58, .iconst 0, 1), (59, .istore 5, 2), (61, .aload_n 0, 1), (62, .aload_n 0, 1), (63, .getfield 7, 3), (66, .iload_n 2, 1), (67, .iaload, 1), (68, .aload_n 0, 1), (69, .getfield 13, 3), (72, .iload_n 2, 1), (73, .iaload, 1), (74, .iload 4, 2), (76, .ifCond .eq 18, 3), (79, .iload 5, 2), (81, .ifCond .ne 13, 3), (84, .aload_n 0, 1), (85, .getfield 16, 3), (88, .iload_n 2, 1), (89, .iaload, 1), (90, .i2l, 1), (91, .goto 10, 3), (94, .aload_n 0, 1), (95, .getfield 19, 3), (98, .iload_n 2, 1), (99, .iaload, 1), (100, .i2l, 1), (101, .invokevirtual 156, 3), (104, .aload_n 0, 1), (105, .aload_n 0, 1), (106, .getfield 13, 3), (109, .iload_n 2, 1), (110, .iaload, 1), (111, .aload_n 0, 1), (112, .getfield 7, 3), (115, .iload_n 2, 1), (116, .iaload, 1), (117, .iload 5, 2), (119, .ifCond .eq 14, 3), (122, .aload_n 0, 1), (123, .getfield 19, 3), (126, .iload_n 2, 1), (127, .iaload, 1), (128, .ineg, 1), (129, .i2l, 1), (130, .goto 11, 3), (133, .aload_n 0, 1), (134, .getfield 16, 3), (137, .iload_n 2, 1), (138, .iaload, 1), (139, .ineg, 1), (140, .i2l, 1), (141, .invokevirtual 156, 3), (144, .iinc 2 1, 3), (147, .goto (-137), 3), (150, .return_, 1)]
def tm_151 : tkM := (6, 3, 1, 24, tc_151) -- TickPlansModel.layLinks(I)V
def te_151 : tkE := (⟨"TickPlansModel", "layLinks", "(I)V"⟩, prog_9_method_27_code, 6, none, false, 1, tm_151)
def tc_152 : tkT := [(0, .aload_n 0, 1), (1, .iconst (-1), 1), (2, .invokevirtual 164, 3), (5, .aload_n 0, 1), (6, .aload_n 0, 1), (7, .getfield 70, 3), (10, .invokevirtual 167, 3), (13, .ifCond .eq 7, 3), (16, .iconst 1, 1), (17, .goto 4, 3), (20, .iconst 0, 1), (21, .ireturn, 1)]
def tm_152 : tkM := (6, 0, 2, 49, tc_152) -- TickPlansModel.together()I
def te_152 : tkE := (⟨"TickPlansModel", "together", "()I"⟩, prog_9_method_28_code, 1, (some .int), false, 0, tm_152)
def tc_153 : tkT := [(0, .aload_n 0, 1), (1, .iload_n 1, 1), (2, .invokevirtual 89, 3), (5, .ifCond .ne 11, 3), (8, .aload_n 0, 1), (9, .iload_n 2, 1), (10, .invokevirtual 89, 3), (13, .ifCond .eq 5, 3), (16, .lconst 0, 1), (17, .lreturn, 1), (18, .aload_n 0, 1), (19, .invokevirtual 170, 3), (22, .iconst 1, 1), (23, .if_icmp .ne 17, 3), (26, .aload_n 0, 1), (27, .getfield 38, 3), (30, .bipush 16, 2), (32, .iload_n 1, 1), (33, .imul, 1), (34, .iload_n 2, 1), (35, .iadd, 1), (36, .laload, 1), (37, .goto 4, 3), (40, .lconst 0, 1), (41, .lreturn, 1)]
def tm_153 : tkM := (6, 2, 3, 69, tc_153) -- TickPlansModel.distance(II)J
def te_153 : tkE := (⟨"TickPlansModel", "distance", "(II)J"⟩, prog_9_method_29_code, 3, (some .long), false, 2, tm_153)
def tc_154 : tkT := [(0, .aload_n 0, 1), (1, .iload_n 1, 1), (2, .putfield 174, 3), (5, .aload_n 0, 1), (6, .iconst 0, 1), (7, .putfield 177, 3), (10, .aload_n 0, 1), (11, .aload_n 0, 1), (12, .getfield 174, 3), (15, .invokevirtual 101, 3), (18, .ifCond .lt 42, 3), (21, .aload_n 0, 1), (22, .aload_n 0, 1), (23, .getfield 174, 3), (26, .invokevirtual 101, 3), (29, .istore_n 2, 1), (30, .aload_n 0, 1), (31, .dup, 1), (32, .getfield 177, 3), (35, .iconst 1, 1), (36, .iload_n 2, 1), (37, .ishl, 1), (38, .ior, 1), (39, .putfield 177, 3), (42, .aload_n 0, 1), (43, .aload_n 0, 1), (44, .getfield 7, 3), (47, .aload_n 0, 1), (48, .getfield 25, 3), (51, .iload_n 2, 1), (52, .iaload, 1), (53, .iaload, 1), (54, .putfield 174, 3), (57, .goto (-47), 3), (60, .return_, 1)]
def tm_154 : tkM := (6, 3, 1, 22, tc_154) -- TickPlansModel.findRoot(I)V
def te_154 : tkE := (⟨"TickPlansModel", "findRoot", "(I)V"⟩, prog_9_method_30_code, 3, none, false, 1, tm_154)
def tc_155 : tkT := [(0, .lconst 0, 1), (1, .lstore_n 3, 1), (2, .iconst 0, 1), (3, .istore 5, 2), (5, .iload 5, 2), (7, .aload_n 0, 1), (8, .getfield 78, 3), (11, .if_icmp .ge 58, 3), (14, .lload_n 3, 1), (15, .iload_n 1, 1), (16, .iload 5, 2), (18, .ishr, 1), (19, .iconst 1, 1), (20, .iand, 1), (21, .ifCond .ne 7, 3), (24, .lconst 0, 1), (25, .goto 36, 3), (28, .iload_n 2, 1), (29, .ifCond .eq 19, 3), (32, .aload_n 0, 1), (33, .getfield 19, 3), (36, .aload_n 0, 1), (37, .getfield 25, 3), (40, .iload 5, 2), (42, .iaload, 1), (43, .iaload, 1), (44, .i2l, 1), (45, .goto 16, 3), (48, .aload_n 0, 1), (49, .getfield 16, 3), (52, .aload_n 0, 1), (53, .getfield 25, 3), (56, .iload 5, 2), (58, .iaload, 1), (59, .iaload, 1), (60, .i2l, 1), (61, .ladd, 1), (62, .lstore_n 3, 1), (63, .iinc 5 1, 3), (66, .goto (-61), 3), (69, .lload_n 3, 1), (70, .lreturn, 1)]
def tm_155 : tkM := (6, 2, 0, 0, tc_155) -- TickPlansModel.sumOf(IZ)J
def te_155 : tkE := (⟨"TickPlansModel", "sumOf", "(IZ)J"⟩, prog_9_method_31_code, 6, (some .long), false, 2, tm_155)
def tc_156 : tkT := [(0, .aload_n 0, 1), (1, .aload_n 0, 1), (2, .getfield 70, 3), (5, .invokevirtual 160, 3), (8, .iconst 0, 1), (9, .istore_n 1, 1), (10, .iload_n 1, 1), (11, .aload_n 0, 1), (12, .getfield 86, 3), (15, .if_icmp .ge 142, 3), (18, .aload_n 0, 1), (19, .getfield 22, 3), (22, .iload_n 1, 1), (23, .iaload, 1), (24, .ifCond .ge 127, 3), (27, .aload_n 0, 1), (28, .aload_n 0, 1), (29, .getfield 7, 3), (32, .iload_n 1, 1), (33, .iaload, 1), (34, .invokevirtual 180, 3), (37, .aload_n 0, 1), (38, .getfield 174, 3), (41, .istore_n 2, 1), (42, .aload_n 0, 1), (43, .getfield 177, 3), (46, .istore_n 3, 1), (47, .aload_n 0, 1), (48, .aload_n 0, 1), (49, .getfield 13, 3), (52, .iload_n 1, 1), (53, .iaload, 1), (54, .invokevirtual 180, 3), (57, .aload_n 0, 1), (58, .getfield 174, 3), (61, .istore 4, 2), (63, .iload_n 3, 1), (64, .aload_n 0, 1), (65, .getfield 177, 3), (68, .iconst (-1), 1), (69, .ixor, 1), (70, .iand, 1), (71, .istore 5, 2), (73, .aload_n 0, 1), (74, .getfield 177, 3), (77, .iload_n 3, 1), (78, .iconst (-1), 1), (79, .ixor, 1), (80, .iand, 1), (81, .istore 6, 2), (83, .aload_n 0, 1), (84, .iload 6, 2), (86, .iconst 1, 1), (87, .invokevirtual 183, 3), (90, .aload_n 0, 1), (91, .iload 5, 2), (93, .iconst 0, 1), (94, .invokevirtual 183, 3), (97, .lsub, 1), (98, .lstore 7, 2), (100, .aload_n 0, 1), (101, .iload 6, 2), (103, .iconst 0, 1), (104, .invokevirtual 183, 3), (107, .aload_n 0, 1), (108, .iload 5, 2), (110, .iconst 1, 1), (111, .invokevirtual 183, 3), (114, .lsub, 1), (115, .lstore 9, 2), (117, .aload_n 0, 1), (118, .iload_n 2, 1), (119, .iload 4, 2), (121, .aload_n 0, 1), (122, .getfield 19, 3), (125, .iload_n 1, 1), (126, .iaload, 1), (127, .i2l, 1), (128, .lload 7, 2), (130, .lsub, 1), (131, .invokevirtual 156, 3), (134, .aload_n 0, 1), (135, .iload 4, 2), (137, .iload_n 2, 1), (138, .lload 9, 2), (140, .aload_n 0, 1), (141, .getfield 16, 3), (144, .iload_n 1, 1), (145, .iaload, 1), (146, .i2l, 1), (147, .lsub, 1), (148, .invokevirtual 156, 3), (151, .iinc 1 1, 3), (154, .goto (-144), 3), (157, .aload_n 0, 1), (158, .aload_n 0, 1), (159, .getfield 70, 3), (162, .invokevirtual 167, 3), (165, .ifCond .eq 7, 3), (168, .iconst 1, 1), (169, .goto 4, 3), (172, .iconst 0, 1), (173, .ireturn, 1)]
def tm_156 : tkM := (6, 0, 2, 48, tc_156) -- TickPlansModel.strong()I
def te_156 : tkE := (⟨"TickPlansModel", "strong", "()I"⟩, prog_9_method_32_code, 11, (some .int), false, 0, tm_156)
def tc_157 : tkT := [(0, .iconst 0, 1), (1, .istore_n 1, 1), (2, .iload_n 1, 1), (3, .iconst 1, 1), (4, .aload_n 0, 1), (5, .getfield 78, 3), (8, .ishl, 1), (9, .if_icmp .ge 27, 3), (12, .aload_n 0, 1), (13, .iload_n 1, 1), (14, .invokevirtual 164, 3), (17, .aload_n 0, 1), (18, .aload_n 0, 1), (19, .getfield 70, 3), (22, .invokevirtual 167, 3), (25, .ifCond .ne 5, 3), (28, .iload_n 1, 1), (29, .ireturn, 1), (30, .iinc 1 1, 3), (33, .goto (-31), 3), (36, .iconst (-1), 1), (37, .ireturn, 1)]
def tm_157 : tkM := (6, 0, 2, 49, tc_157) -- TickPlansModel.spoiling()I
def te_157 : tkE := (⟨"TickPlansModel", "spoiling", "()I"⟩, prog_9_method_33_code, 2, (some .int), false, 0, tm_157)
def tc_158 : tkT := [(0, .aload_n 0, 1), (1, .invokevirtual 187, 3), (4, .ifCond .ge 7, 3), (7, .iconst 1, 1), (8, .goto 4, 3), (11, .iconst 0, 1), (12, .ireturn, 1)]
def tm_158 : tkM := (6, 0, 3, 70, tc_158) -- TickPlansModel.weak()I
def te_158 : tkE := (⟨"TickPlansModel", "weak", "()I"⟩, prog_9_method_34_code, 1, (some .int), false, 0, tm_158)
def tc_159 : tkT := [(0, .iload_n 1, 1), (1, .iconst 0, 1), (2, .aload_n 0, 1), (3, .getfield 78, 3), (6, .iconst 1, 1), (7, .isub, 1), (8, .invokestatic 74, 3), (11, .ifCond .ne 6, 3), (14, .bipush (-11), 2), (16, .ireturn, 1), (17, .aload_n 0, 1), (18, .invokevirtual 187, 3), (21, .istore_n 2, 1), (22, .iload_n 2, 1), (23, .ifCond .ge 8, 3), (26, .bipush (-13), 2), (28, .goto 37, 3), (31, .iload_n 2, 1), (32, .iload_n 1, 1), (33, .ishr, 1), (34, .iconst 1, 1), (35, .iand, 1), (36, .iconst 1, 1), (37, .if_icmp .ne 17, 3), (40, .aload_n 0, 1), (41, .getfield 19, 3), (44, .aload_n 0, 1), (45, .getfield 25, 3), (48, .iload_n 1, 1), (49, .iaload, 1), (50, .iaload, 1), (51, .goto 14, 3), (54, .aload_n 0, 1), (55, .getfield 16, 3), (58, .aload_n 0, 1), (59, .getfield 25, 3), (62, .iload_n 1, 1), (63, .iaload, 1), (64, .iaload, 1), (65, .ireturn, 1)]
def tm_159 : tkM := (6, 0, 3, 70, tc_159) -- TickPlansModel.spoiler(I)I
def te_159 : tkE := (⟨"TickPlansModel", "spoiler", "(I)I"⟩, prog_9_method_35_code, 3, (some .int), false, 1, tm_159)
def tc_160 : tkT := [(0, .lload_n 0, 1), (1, .ldc2_w 154, 3), (4, .lcmp, 1), (5, .ifCond .eq 11, 3), (8, .lload_n 2, 1), (9, .ldc2_w 154, 3), (12, .lcmp, 1), (13, .ifCond .ne 9, 3), (16, .ldc2_w 154, 3), (19, .goto 6, 3), (22, .lload_n 0, 1), (23, .lload_n 2, 1), (24, .ladd, 1), (25, .lreturn, 1)]
def tm_160 : tkM := (6, 2, 0, 0, tc_160) -- TickPlansModel.sum(JJ)J
def te_160 : tkE := (⟨"TickPlansModel", "sum", "(JJ)J"⟩, prog_9_method_36_code, 4, (some .long), true, 2, tm_160)
def tc_161 : tkT := [(0, .aload_n 0, 1), (1, .getfield 42, 3), (4, .bipush 16, 2), (6, .iload_n 1, 1), (7, .imul, 1), (8, .iload_n 2, 1), (9, .iadd, 1), (10, .lload_n 3, 1), (11, .aload_n 0, 1), (12, .getfield 42, 3), (15, .bipush 16, 2), (17, .iload_n 1, 1), (18, .imul, 1), (19, .iload_n 2, 1), (20, .iadd, 1), (21, .laload, 1), (22, .lcmp, 1), (23, .ifCond .ge 7, 3), (26, .lload_n 3, 1), (27, .goto 14, 3), (30, .aload_n 0, 1), (31, .getfield 42, 3), (34, .bipush 16, 2), (36, .iload_n 1, 1), (37, .imul, 1), (38, .iload_n 2, 1), (39, .iadd, 1), (40, .laload, 1), (41, .lastore, 1), (42, .return_, 1)]
def tm_161 : tkM := (6, 3, 0, 0, tc_161) -- TickPlansModel.lessEdge(IIJ)V
def te_161 : tkE := (⟨"TickPlansModel", "lessEdge", "(IIJ)V"⟩, prog_9_method_37_code, 5, none, false, 3, tm_161)
def tc_162 : tkT := [(0, .aload_n 0, 1), (1, .getfield 45, 3), (4, .bipush 6, 2), (6, .iload_n 1, 1), (7, .imul, 1), (8, .iload_n 2, 1), (9, .iadd, 1), (10, .lload_n 3, 1), (11, .aload_n 0, 1), (12, .getfield 45, 3), (15, .bipush 6, 2), (17, .iload_n 1, 1), (18, .imul, 1), (19, .iload_n 2, 1), (20, .iadd, 1), (21, .laload, 1), (22, .lcmp, 1), (23, .ifCond .ge 7, 3), (26, .lload_n 3, 1), (27, .goto 14, 3), (30, .aload_n 0, 1), (31, .getfield 45, 3), (34, .bipush 6, 2), (36, .iload_n 1, 1), (37, .imul, 1), (38, .iload_n 2, 1), (39, .iadd, 1), (40, .laload, 1), (41, .lastore, 1), (42, .return_, 1)]
def tm_162 : tkM := (6, 3, 0, 0, tc_162) -- TickPlansModel.lessWait(IIJ)V
def te_162 : tkE := (⟨"TickPlansModel", "lessWait", "(IIJ)V"⟩, prog_9_method_38_code, 5, none, false, 3, tm_162)
def tc_163 : tkT := [(0, .iconst 0, 1), (1, .istore_n 1, 1), (2, .iload_n 1, 1), (3, .sipush 256, 3), (6, .if_icmp .ge 21, 3), (9, .aload_n 0, 1), (10, .getfield 54, 3), (13, .iload_n 1, 1), (14, .aload_n 0, 1), (15, .getfield 42, 3), (18, .iload_n 1, 1), (19, .laload, 1), (20, .lastore, 1), (21, .iinc 1 1, 3), (24, .goto (-22), 3), (27, .iconst 0, 1), (28, .istore_n 1, 1), (29, .iload_n 1, 1), (30, .bipush 96, 2), (32, .if_icmp .ge 21, 3), (35, .aload_n 0, 1), (36, .getfield 57, 3), (39, .iload_n 1, 1), (40, .aload_n 0, 1), (41, .getfield 45, 3), (44, .iload_n 1, 1), (45, .laload, 1), (46, .lastore, 1), (47, .iinc 1 1, 3), (50, .goto (-21), 3), (53, .return_, 1)]
def tm_163 : tkM := (6, 3, 0, 0, tc_163) -- TickPlansModel.see()V
def te_163 : tkE := (⟨"TickPlansModel", "see", "()V"⟩, prog_9_method_39_code, 2, none, false, 0, tm_163)
def tc_164 : tkT := [(0, .aload_n 0, 1), (1, .getfield 7, 3), (4, .aload_n 0, 1), (5, .getfield 25, 3), (8, .iload_n 1, 1), (9, .iaload, 1), (10, .iaload, 1), (11, .ireturn, 1)]
def tm_164 : tkM := (6, 0, 0, 0, tc_164) -- TickPlansModel.begin(I)I
def te_164 : tkE := (⟨"TickPlansModel", "begin", "(I)I"⟩, prog_9_method_40_code, 2, (some .int), false, 1, tm_164)
def tc_165 : tkT := [(0, .aload_n 0, 1), (1, .getfield 13, 3), (4, .aload_n 0, 1), (5, .getfield 25, 3), (8, .iload_n 1, 1), (9, .iaload, 1), (10, .iaload, 1), (11, .ireturn, 1)]
def tm_165 : tkM := (6, 0, 0, 0, tc_165) -- TickPlansModel.end(I)I
def te_165 : tkE := (⟨"TickPlansModel", "end", "(I)I"⟩, prog_9_method_41_code, 2, (some .int), false, 1, tm_165)
def tc_166 : tkT := [(0, .iconst 0, 1), (1, .istore_n 1, 1), (2, .iload_n 1, 1), (3, .sipush 256, 3), (6, .if_icmp .ge 21, 3), (9, .aload_n 0, 1), (10, .getfield 38, 3), (13, .iload_n 1, 1), (14, .aload_n 0, 1), (15, .getfield 42, 3), (18, .iload_n 1, 1), (19, .laload, 1), (20, .lastore, 1), (21, .iinc 1 1, 3), (24, .goto (-22), 3), (27, .aload_n 0, 1), (28, .aload_n 0, 1), (29, .getfield 70, 3), (32, .invokevirtual 167, 3), (35, .istore_n 1, 1), (36, .iconst 0, 1), (37, .istore_n 2, 1), (38, .iload_n 2, 1), (39, .sipush 256, 3), (42, .if_icmp .ge 21, 3), (45, .aload_n 0, 1), (46, .getfield 42, 3), (49, .iload_n 2, 1), (50, .aload_n 0, 1), (51, .getfield 38, 3), (54, .iload_n 2, 1), (55, .laload, 1), (56, .lastore, 1), (57, .iinc 2 1, 3), (60, .goto (-22), 3), (63, .iload_n 1, 1), (64, .ireturn, 1)]
def tm_166 : tkM := (6, 1, 2, 48, tc_166) -- TickPlansModel.closesEdges()Z
def te_166 : tkE := (⟨"TickPlansModel", "closesEdges", "()Z"⟩, prog_9_method_42_code, 3, (some .boolean), false, 0, tm_166)
def tc_167 : tkT := [(0, .aload_n 0, 1), (1, .invokevirtual 190, 3), (4, .iconst 0, 1), (5, .istore_n 1, 1), (6, .iload_n 1, 1), (7, .aload_n 0, 1), (8, .getfield 70, 3), (11, .if_icmp .ge 102, 3), (14, .iconst 0, 1), (15, .istore_n 2, 1), (16, .iload_n 2, 1), (17, .aload_n 0, 1), (18, .getfield 78, 3), (21, .if_icmp .ge 86, 3), (24, .ldc2_w 154, 3), (27, .lstore_n 3, 1), (28, .iconst 0, 1), (29, .istore 5, 2), (31, .iload 5, 2), (33, .aload_n 0, 1), (34, .getfield 70, 3), (37, .if_icmp .ge 52, 3), (40, .aload_n 0, 1), (41, .getfield 54, 3), (44, .bipush 16, 2), (46, .iload_n 1, 1), (47, .imul, 1), (48, .iload 5, 2), (50, .iadd, 1), (51, .laload, 1), (52, .aload_n 0, 1), (53, .getfield 57, 3), (56, .bipush 6, 2), (58, .iload 5, 2), (60, .imul, 1), (61, .iload_n 2, 1), (62, .iadd, 1), (63, .laload, 1), (64, .invokestatic 193, 3), (67, .lstore 6, 2), (69, .lload 6, 2), (71, .lload_n 3, 1), (72, .lcmp, 1), (73, .ifCond .ge 8, 3), (76, .lload 6, 2), (78, .goto 4, 3), (81, .lload_n 3, 1), (82, .lstore_n 3, 1), (83, .iinc 5 1, 3), (86, .goto (-55), 3), (89, .aload_n 0, 1), (90, .getfield 45, 3), (93, .bipush 6, 2), (95, .iload_n 1, 1), (96, .imul, 1), (97, .iload_n 2, 1), (98, .iadd, 1), (99, .lload_n 3, 1), (100, .lastore, 1), (101, .iinc 2 1, 3), (104, .goto (-88), 3), (107, .iinc 1 1, 3), (110, .goto (-104), 3), (113, .return_, 1)]
def tm_167 : tkM := (6, 3, 1, 23, tc_167) -- TickPlansModel.combine()V
def te_167 : tkE := (⟨"TickPlansModel", "combine", "()V"⟩, prog_9_method_43_code, 8, none, false, 0, tm_167)
def tc_168 : tkT := [(0, .aload_n 0, 1), (1, .invokevirtual 190, 3), (4, .iconst 0, 1), (5, .istore_n 1, 1), (6, .iload_n 1, 1), (7, .aload_n 0, 1), (8, .getfield 78, 3), (11, .if_icmp .ge 83, 3), (14, .iconst 0, 1), (15, .istore_n 2, 1), (16, .iload_n 2, 1), (17, .aload_n 0, 1), (18, .getfield 70, 3), (21, .if_icmp .ge 67, 3), (24, .aload_n 0, 1), (25, .getfield 57, 3), (28, .bipush 6, 2), (30, .iload_n 2, 1), (31, .imul, 1), (32, .iload_n 1, 1), (33, .iadd, 1), (34, .laload, 1), (35, .lstore_n 3, 1), (36, .iload_n 2, 1), (37, .aload_n 0, 1), (38, .iload_n 1, 1), (39, .invokevirtual 197, 3), (42, .if_icmp .eq 40, 3), (45, .lload_n 3, 1), (46, .ldc2_w 154, 3), (49, .lcmp, 1), (50, .ifCond .eq 32, 3), (53, .lload_n 3, 1), (54, .aload_n 0, 1), (55, .getfield 16, 3), (58, .aload_n 0, 1), (59, .getfield 25, 3), (62, .iload_n 1, 1), (63, .iaload, 1), (64, .iaload, 1), (65, .ineg, 1), (66, .i2l, 1), (67, .lcmp, 1), (68, .ifCond .lt 14, 3), (71, .aload_n 0, 1), (72, .iload_n 2, 1), (73, .aload_n 0, 1), (74, .iload_n 1, 1), (75, .invokevirtual 200, 3), (78, .lload_n 3, 1), (79, .invokevirtual 203, 3), (82, .iinc 2 1, 3), (85, .goto (-69), 3), (88, .iinc 1 1, 3), (91, .goto (-85), 3), (94, .return_, 1)]
def tm_168 : tkM := (6, 3, 1, 24, tc_168) -- TickPlansModel.unwait()V
def te_168 : tkE := (⟨"TickPlansModel", "unwait", "()V"⟩, prog_9_method_44_code, 5, none, false, 0, tm_168)
def tc_169 : tkT := [(0, .aload_n 0, 1), (1, .invokevirtual 190, 3), (4, .iconst 0, 1), (5, .istore_n 1, 1), (6, .iload_n 1, 1), (7, .aload_n 0, 1), (8, .getfield 78, 3), (11, .if_icmp .ge 71, 3), (14, .iconst 0, 1), (15, .istore_n 2, 1), (16, .iload_n 2, 1), (17, .aload_n 0, 1), (18, .getfield 70, 3), (21, .if_icmp .ge 55, 3), (24, .aload_n 0, 1), (25, .getfield 54, 3), (28, .bipush 16, 2), (30, .aload_n 0, 1), (31, .iload_n 1, 1), (32, .invokevirtual 197, 3), (35, .imul, 1), (36, .iload_n 2, 1), (37, .iadd, 1), (38, .laload, 1), (39, .lstore_n 3, 1), (40, .lload_n 3, 1), (41, .lconst 0, 1), (42, .lcmp, 1), (43, .ifCond .ge 27, 3), (46, .aload_n 0, 1), (47, .aload_n 0, 1), (48, .iload_n 1, 1), (49, .invokevirtual 200, 3), (52, .iload_n 2, 1), (53, .aload_n 0, 1), (54, .getfield 16, 3), (57, .aload_n 0, 1), (58, .getfield 25, 3), (61, .iload_n 1, 1), (62, .iaload, 1), (63, .iaload, 1), (64, .i2l, 1), (65, .lload_n 3, 1), (66, .ladd, 1), (67, .invokevirtual 203, 3), (70, .iinc 2 1, 3), (73, .goto (-57), 3), (76, .iinc 1 1, 3), (79, .goto (-73), 3), (82, .aload_n 0, 1), (83, .invokevirtual 190, 3), (86, .iconst 0, 1), (87, .istore_n 1, 1), (88, .iload_n 1, 1), (89, .aload_n 0, 1), (90, .getfield 78, 3), (93, .if_icmp .ge 76, 3), (96, .iconst 0, 1), (97, .istore_n 2, 1), (98, .iload_n 2, 1), (99, .aload_n 0, 1), (100, .getfield 78, 3), (103, .if_icmp .ge 60, 3), (106, .aload_n 0, 1), (107, .getfield 57, 3), (110, .bipush 6, 2), (112, .aload_n 0, 1), (113, .iload_n 1, 1), (114, .invokevirtual 197, 3), (117, .imul, 1), (118, .iload_n 2, 1), (119, .iadd, 1), (120, .laload, 1), (121, .lstore_n 3, 1), (122, .iload_n 2, 1), (123, .iload_n 1, 1), (124, .if_icmp .eq 33, 3), (127, .lload_n 3, 1), (128, .lconst 0, 1), (129, .lcmp, 1), (130, .ifCond .ge 27, 3), (133, .aload_n 0, 1), (134, .aload_n 0, 1), (135, .iload_n 1, 1), (136, .invokevirtual 200, 3), (139, .iload_n 2, 1), (140, .aload_n 0, 1), (141, .getfield 16, 3), (144, .aload_n 0, 1), (145, .getfield 25, 3), (148, .iload_n 1, 1), (149, .iaload, 1), (150, .iaload, 1), (151, .i2l, 1), (152, .lload_n 3, 1), (153, .ladd, 1), (154, .invokevirtual 206, 3), (157, .iinc 2 1, 3), (160, .goto (-62), 3), (163, .iinc 1 1, 3), (166, .goto (-78), 3), (169, .return_, 1)]
def tm_169 : tkM := (6, 3, 1, 24, tc_169) -- TickPlansModel.comeDown()V
def te_169 : tkE := (⟨"TickPlansModel", "comeDown", "()V"⟩, prog_9_method_45_code, 5, none, false, 0, tm_169)
def tc_170 : tkT := [(0, .iconst 0, 1), (1, .istore_n 1, 1), (2, .iconst 0, 1), (3, .istore_n 2, 1), (4, .iload_n 2, 1), (5, .sipush 256, 3), (8, .if_icmp .ge 44, 3), (11, .aload_n 0, 1), (12, .getfield 38, 3), (15, .iload_n 2, 1), (16, .aload_n 0, 1), (17, .getfield 42, 3), (20, .iload_n 2, 1), (21, .laload, 1), (22, .lastore, 1), (23, .iload_n 1, 1), (24, .ifCond .ne 16, 3), (27, .aload_n 0, 1), (28, .getfield 42, 3), (31, .iload_n 2, 1), (32, .laload, 1), (33, .ldc2_w 209, 3), (36, .lcmp, 1), (37, .ifCond .ge 7, 3), (40, .iconst 1, 1), (41, .goto 4, 3), (44, .iconst 0, 1), (45, .istore_n 1, 1), (46, .iinc 2 1, 3), (49, .goto (-45), 3), (52, .iconst 0, 1), (53, .istore_n 2, 1), (54, .iload_n 2, 1), (55, .aload_n 0, 1), (56, .getfield 70, 3), (59, .if_icmp .ge 74, 3), (62, .iconst 0, 1), (63, .istore_n 3, 1), (64, .iload_n 3, 1), (65, .aload_n 0, 1), (66, .getfield 78, 3), (69, .if_icmp .ge 58, 3), (72, .iload_n 1, 1), (73, .ifCond .ne 21, 3), (76, .aload_n 0, 1), (77, .getfield 45, 3), (80, .bipush 6, 2), (82, .iload_n 2, 1), (83, .imul, 1), (84, .iload_n 3, 1), (85, .iadd, 1), (86, .laload, 1), (87, .ldc2_w 209, 3), (90, .lcmp, 1), (91, .ifCond .ge 7, 3), (94, .iconst 1, 1), (95, .goto 4, 3), (98, .iconst 0, 1), (99, .istore_n 1, 1), (100, .aload_n 0, 1), (101, .iload_n 2, 1), (102, .aload_n 0, 1), (103, .iload_n 3, 1), (104, .invokevirtual 200, 3), (107, .aload_n 0, 1), (108, .getfield 45, 3), (111, .bipush 6, 2), (113, .iload_n 2, 1), (114, .imul, 1), (115, .iload_n 3, 1), (116, .iadd, 1), (117, .laload, 1), (118, .invokevirtual 156, 3), (121, .iinc 3 1, 3), (124, .goto (-60), 3), (127, .iinc 2 1, 3), (130, .goto (-76), 3), (133, .iload_n 1, 1), (134, .ifCond .ne 14, 3), (137, .aload_n 0, 1), (138, .aload_n 0, 1), (139, .getfield 70, 3), (142, .invokevirtual 167, 3), (145, .ifCond .ne 7, 3), (148, .iconst 1, 1), (149, .goto 4, 3), (152, .iconst 0, 1), (153, .ireturn, 1)]
def tm_170 : tkM := (6, 1, 2, 48, tc_170) -- TickPlansModel.isBroken()Z
def te_170 : tkE := (⟨"TickPlansModel", "isBroken", "()Z"⟩, prog_9_method_46_code, 4, (some .boolean), false, 0, tm_170)
def tc_171 : tkT := [(0, .iconst 1, 1), (1, .istore_n 1, 1), (2, .iconst 0, 1), (3, .istore_n 2, 1), (4, .iload_n 2, 1), (5, .sipush 256, 3), (8, .if_icmp .ge 35, 3), (11, .iload_n 1, 1), (12, .ifCond .eq 23, 3), (15, .aload_n 0, 1), (16, .getfield 42, 3), (19, .iload_n 2, 1), (20, .laload, 1), (21, .aload_n 0, 1), (22, .getfield 48, 3), (25, .iload_n 2, 1), (26, .laload, 1), (27, .lcmp, 1), (28, .ifCond .ne 7, 3), (31, .iconst 1, 1), (32, .goto 4, 3), (35, .iconst 0, 1), (36, .istore_n 1, 1), (37, .iinc 2 1, 3), (40, .goto (-36), 3), (43, .iconst 0, 1), (44, .istore_n 2, 1), (45, .iload_n 2, 1), (46, .bipush 96, 2), (48, .if_icmp .ge 35, 3), (51, .iload_n 1, 1), (52, .ifCond .eq 23, 3), (55, .aload_n 0, 1), (56, .getfield 45, 3), (59, .iload_n 2, 1), (60, .laload, 1), (61, .aload_n 0, 1), (62, .getfield 51, 3), (65, .iload_n 2, 1), (66, .laload, 1), (67, .lcmp, 1), (68, .ifCond .ne 7, 3), (71, .iconst 1, 1), (72, .goto 4, 3), (75, .iconst 0, 1), (76, .istore_n 1, 1), (77, .iinc 2 1, 3), (80, .goto (-35), 3), (83, .iload_n 1, 1), (84, .ireturn, 1)]
def tm_171 : tkM := (6, 1, 0, 0, tc_171) -- TickPlansModel.isAsItWas()Z
def te_171 : tkE := (⟨"TickPlansModel", "isAsItWas", "()Z"⟩, prog_9_method_47_code, 3, (some .boolean), false, 0, tm_171)
def tc_172 : tkT := [(0, .iconst 0, 1), (1, .istore_n 1, 1), (2, .iload_n 1, 1), (3, .sipush 256, 3), (6, .if_icmp .ge 21, 3), (9, .aload_n 0, 1), (10, .getfield 48, 3), (13, .iload_n 1, 1), (14, .aload_n 0, 1), (15, .getfield 42, 3), (18, .iload_n 1, 1), (19, .laload, 1), (20, .lastore, 1), (21, .iinc 1 1, 3), (24, .goto (-22), 3), (27, .iconst 0, 1), (28, .istore_n 1, 1), (29, .iload_n 1, 1), (30, .bipush 96, 2), (32, .if_icmp .ge 21, 3), (35, .aload_n 0, 1), (36, .getfield 51, 3), (39, .iload_n 1, 1), (40, .aload_n 0, 1), (41, .getfield 45, 3), (44, .iload_n 1, 1), (45, .laload, 1), (46, .lastore, 1), (47, .iinc 1 1, 3), (50, .goto (-21), 3), (53, .aload_n 0, 1), (54, .invokevirtual 211, 3), (57, .ifCond .ne 5, 3), (60, .iconst 2, 1), (61, .ireturn, 1), (62, .aload_n 0, 1), (63, .invokevirtual 214, 3), (66, .aload_n 0, 1), (67, .invokevirtual 217, 3), (70, .aload_n 0, 1), (71, .invokevirtual 220, 3), (74, .aload_n 0, 1), (75, .invokevirtual 223, 3), (78, .ifCond .eq 7, 3), (81, .iconst 2, 1), (82, .goto 15, 3), (85, .aload_n 0, 1), (86, .invokevirtual 226, 3), (89, .ifCond .eq 7, 3), (92, .iconst 1, 1), (93, .goto 4, 3), (96, .iconst 0, 1), (97, .ireturn, 1)]
def tm_172 : tkM := (6, 0, 3, 71, tc_172) -- TickPlansModel.goesRound()I
def te_172 : tkE := (⟨"TickPlansModel", "goesRound", "()I"⟩, prog_9_method_48_code, 2, (some .int), false, 0, tm_172)
def tc_173 : tkT := [(0, .aload_n 0, 1), (1, .getfield 63, 3), (4, .ifCond .eq 4, 3), (7, .return_, 1), (8, .aload_n 0, 1), (9, .iconst 1, 1), (10, .putfield 63, 3), (13, .iconst 0, 1), (14, .istore_n 1, 1), (15, .iload_n 1, 1), (16, .sipush 256, 3), (19, .if_icmp .ge 18, 3), (22, .aload_n 0, 1), (23, .getfield 38, 3), (26, .iload_n 1, 1), (27, .ldc2_w 154, 3), (30, .lastore, 1), (31, .iinc 1 1, 3), (34, .goto (-19), 3), (37, .aload_n 0, 1), (38, .iconst (-1), 1), (39, .invokevirtual 164, 3), (42, .iconst 0, 1), (43, .istore_n 1, 1), (44, .iload_n 1, 1), (45, .sipush 256, 3), (48, .if_icmp .ge 21, 3), (51, .aload_n 0, 1), (52, .getfield 42, 3), (55, .iload_n 1, 1), (56, .aload_n 0, 1), (57, .getfield 38, 3), (60, .iload_n 1, 1), (61, .laload, 1), (62, .lastore, 1), (63, .iinc 1 1, 3), (66, .goto (-22), 3), (69, .iconst 0, 1), (70, .istore_n 1, 1), (71, .iload_n 1, 1), (72, .bipush 96, 2), (74, .if_icmp .ge 18, 3), (77, .aload_n 0, 1), (78, .getfield 45, 3), (81, .iload_n 1, 1), (82, .ldc2_w 154, 3), (85, .lastore, 1), (86, .iinc 1 1, 3), (89, .goto (-18), 3), (92, .iconst 0, 1), (93, .istore_n 1, 1), (94, .iload_n 1, 1), (95, .aload_n 0, 1), (96, .getfield 78, 3), (99, .if_icmp .ge 37, 3), (102, .aload_n 0, 1), (103, .getfield 45, 3), (106, .bipush 6, 2), (108, .aload_n 0, 1), (109, .iload_n 1, 1), (110, .invokevirtual 197, 3), (113, .imul, 1), (114, .iload_n 1, 1), (115, .iadd, 1), (116, .aload_n 0, 1), (117, .getfield 19, 3), (120, .aload_n 0, 1), (121, .getfield 25, 3), (124, .iload_n 1, 1), (125, .iaload, 1), (126, .iaload, 1), (127, .ineg, 1), (128, .i2l, 1), (129, .lastore, 1), (130, .iinc 1 1, 3), (133, .goto (-39), 3), (136, .aload_n 0, 1), (137, .iconst 0, 1), (138, .putfield 229, 3), (141, .iconst 0, 1), (142, .istore_n 1, 1), (143, .iload_n 1, 1), (144, .ifCond .ne 31, 3), (147, .aload_n 0, 1), (148, .getfield 229, 3), (151, .sipush 400, 3), (154, .if_icmp .ge 21, 3), (157, .aload_n 0, 1), (158, .invokevirtual 232, 3), (161, .istore_n 1, 1), (162, .aload_n 0, 1), (163, .dup, 1), (164, .getfield 229, 3), (167, .iconst 1, 1), (168, .iadd, 1), (169, .putfield 229, 3), (172, .goto (-29), 3), (175, .aload_n 0, 1), (176, .iload_n 1, 1), (177, .iconst 1, 1), (178, .if_icmp .ne 7, 3), (181, .iconst 1, 1), (182, .goto 4, 3), (185, .iconst 0, 1), (186, .putfield 235, 3), (189, .return_, 1)]
def tm_173 : tkM := (6, 3, 4, 92, tc_173) -- TickPlansModel.know()V
def te_173 : tkE := (⟨"TickPlansModel", "know", "()V"⟩, prog_9_method_49_code, 2, none, false, 0, tm_173)
def tc_174 : tkT := [(0, .aload_n 0, 1), (1, .invokevirtual 238, 3), (4, .aload_n 0, 1), (5, .getfield 235, 3), (8, .ifCond .eq 7, 3), (11, .iconst 1, 1), (12, .goto 4, 3), (15, .iconst 0, 1), (16, .ireturn, 1)]
def tm_174 : tkM := (6, 0, 5, 113, tc_174) -- TickPlansModel.lively()I
def te_174 : tkE := (⟨"TickPlansModel", "lively", "()I"⟩, prog_9_method_50_code, 1, (some .int), false, 0, tm_174)
def tc_175 : tkT := [(0, .aload_n 0, 1), (1, .invokevirtual 238, 3), (4, .aload_n 0, 1), (5, .getfield 229, 3), (8, .ireturn, 1)]
def tm_175 : tkM := (6, 0, 5, 113, tc_175) -- TickPlansModel.rounds()I
def te_175 : tkE := (⟨"TickPlansModel", "rounds", "()I"⟩, prog_9_method_51_code, 1, (some .int), false, 0, tm_175)
def tc_176 : tkT := [(0, .aload_n 0, 1), (1, .invokevirtual 238, 3), (4, .aload_n 0, 1), (5, .iload_n 1, 1), (6, .invokevirtual 89, 3), (9, .ifCond .ne 18, 3), (12, .aload_n 0, 1), (13, .iload_n 2, 1), (14, .invokevirtual 89, 3), (17, .ifCond .ne 10, 3), (20, .aload_n 0, 1), (21, .getfield 235, 3), (24, .ifCond .ne 7, 3), (27, .lconst 0, 1), (28, .goto 14, 3), (31, .aload_n 0, 1), (32, .getfield 42, 3), (35, .bipush 16, 2), (37, .iload_n 1, 1), (38, .imul, 1), (39, .iload_n 2, 1), (40, .iadd, 1), (41, .laload, 1), (42, .lreturn, 1)]
def tm_176 : tkM := (6, 2, 5, 113, tc_176) -- TickPlansModel.edge(II)J
def te_176 : tkE := (⟨"TickPlansModel", "edge", "(II)J"⟩, prog_9_method_52_code, 3, (some .long), false, 2, tm_176)
def tc_177 : tkT := [(0, .aload_n 0, 1), (1, .invokevirtual 238, 3), (4, .aload_n 0, 1), (5, .iload_n 1, 1), (6, .invokevirtual 89, 3), (9, .ifCond .ne 24, 3), (12, .iload_n 2, 1), (13, .iconst 0, 1), (14, .aload_n 0, 1), (15, .getfield 78, 3), (18, .iconst 1, 1), (19, .isub, 1), (20, .invokestatic 74, 3), (23, .ifCond .eq 10, 3), (26, .aload_n 0, 1), (27, .getfield 235, 3), (30, .ifCond .ne 7, 3), (33, .lconst 0, 1), (34, .goto 14, 3), (37, .aload_n 0, 1), (38, .getfield 45, 3), (41, .bipush 6, 2), (43, .iload_n 1, 1), (44, .imul, 1), (45, .iload_n 2, 1), (46, .iadd, 1), (47, .laload, 1), (48, .lreturn, 1)]
def tm_177 : tkM := (6, 2, 5, 113, tc_177) -- TickPlansModel.wait(II)J
def te_177 : tkE := (⟨"TickPlansModel", "wait", "(II)J"⟩, prog_9_method_53_code, 3, (some .long), false, 2, tm_177)
def tc_178 : tkT := [(0, .aload_n 0, 1), (1, .invokevirtual 238, 3), (4, .aload_n 0, 1), (5, .getfield 235, 3), (8, .ifCond .ne 6, 3), (11, .bipush (-13), 2), (13, .ireturn, 1), (14, .aload_n 0, 1), (15, .iconst 1, 1), (16, .putfield 67, 3), (19, .aload_n 0, 1), (20, .iconst 0, 1), (21, .putfield 241, 3), (24, .iconst 0, 1), (25, .istore_n 1, 1), (26, .iload_n 1, 1), (27, .bipush 16, 2), (29, .if_icmp .ge 17, 3), (32, .aload_n 0, 1), (33, .getfield 60, 3), (36, .iload_n 1, 1), (37, .bipush (-9), 2), (39, .iastore, 1), (40, .iinc 1 1, 3), (43, .goto (-17), 3), (46, .iconst 1, 1), (47, .ireturn, 1)]
def tm_178 : tkM := (6, 0, 5, 113, tc_178) -- TickPlansModel.start()I
def te_178 : tkE := (⟨"TickPlansModel", "start", "()I"⟩, prog_9_method_54_code, 2, (some .int), false, 0, tm_178)
def tc_179 : tkT := [(0, .aload_n 0, 1), (1, .getfield 60, 3), (4, .iload_n 1, 1), (5, .iaload, 1), (6, .ifCond .lt 7, 3), (9, .iconst 1, 1), (10, .goto 4, 3), (13, .iconst 0, 1), (14, .ireturn, 1)]
def tm_179 : tkM := (6, 1, 0, 0, tc_179) -- TickPlansModel.hasCome(I)Z
def te_179 : tkE := (⟨"TickPlansModel", "hasCome", "(I)Z"⟩, prog_9_method_55_code, 2, (some .boolean), false, 1, tm_179)
def tc_180 : tkT := [(0, .iconst 0, 1), (1, .istore_n 2, 1), (2, .iconst 0, 1), (3, .istore_n 3, 1), (4, .iload_n 3, 1), (5, .aload_n 0, 1), (6, .getfield 78, 3), (9, .if_icmp .ge 69, 3), (12, .iload_n 2, 1), (13, .ifCond .ne 53, 3), (16, .aload_n 0, 1), (17, .aload_n 0, 1), (18, .iload_n 3, 1), (19, .invokevirtual 197, 3), (22, .invokevirtual 244, 3), (25, .ifCond .ne 45, 3), (28, .aload_n 0, 1), (29, .aload_n 0, 1), (30, .iload_n 3, 1), (31, .invokevirtual 200, 3), (34, .invokevirtual 244, 3), (37, .ifCond .eq 33, 3), (40, .iload_n 1, 1), (41, .aload_n 0, 1), (42, .getfield 60, 3), (45, .aload_n 0, 1), (46, .iload_n 3, 1), (47, .invokevirtual 200, 3), (50, .iaload, 1), (51, .isub, 1), (52, .aload_n 0, 1), (53, .getfield 19, 3), (56, .aload_n 0, 1), (57, .getfield 25, 3), (60, .iload_n 3, 1), (61, .iaload, 1), (62, .iaload, 1), (63, .if_icmp .le 7, 3), (66, .iconst 1, 1), (67, .goto 4, 3), (70, .iconst 0, 1), (71, .istore_n 2, 1), (72, .iinc 3 1, 3), (75, .goto (-71), 3), (78, .iload_n 2, 1), (79, .ireturn, 1)]
def tm_180 : tkM := (6, 1, 1, 21, tc_180) -- TickPlansModel.isLate(I)Z
def te_180 : tkE := (⟨"TickPlansModel", "isLate", "(I)Z"⟩, prog_9_method_56_code, 4, (some .boolean), false, 1, tm_180)
def tc_181 : tkT := [(0, .aload_n 0, 1), (1, .lconst 0, 1), (2, .putfield 247, 3), (5, .aload_n 0, 1), (6, .ldc2_w 154, 3), (9, .putfield 251, 3), (12, .aload_n 0, 1), (13, .iload_n 1, 1), (14, .invokevirtual 101, 3), (17, .ifCond .ge 11, 3), (20, .aload_n 0, 1), (21, .iload_n 1, 1), (22, .invokevirtual 244, 3), (25, .ifCond .eq 5, 3), (28, .iconst 0, 1), (29, .ireturn, 1), (30, .iconst 0, 1), (31, .istore_n 2, 1), (32, .iload_n 2, 1), (33, .aload_n 0, 1), (34, .getfield 70, 3), (37, .if_icmp .ge 161, 3), (40, .aload_n 0, 1), (41, .getfield 42, 3), (44, .bipush 16, 2), (46, .iload_n 1, 1), (47, .imul, 1), (48, .iload_n 2, 1), (49, .iadd, 1), (50, .laload, 1), (51, .lstore_n 3, 1), (52, .aload_n 0, 1), (53, .getfield 42, 3), (56, .bipush 16, 2), (58, .iload_n 2, 1), (59, .imul, 1), (60, .iload_n 1, 1), (61, .iadd, 1), (62, .laload, 1), (63, .lstore 5, 2), (65, .iload_n 2, 1), (66, .iload_n 1, 1), (67, .if_icmp .eq 19, 3), (70, .aload_n 0, 1), (71, .iload_n 2, 1), (72, .invokevirtual 244, 3), (75, .ifCond .ne 11, 3), (78, .lload_n 3, 1), (79, .lconst 0, 1), (80, .lcmp, 1), (81, .ifCond .ge 5, 3), (84, .iconst 0, 1), (85, .ireturn, 1), (86, .iload_n 2, 1), (87, .iload_n 1, 1), (88, .if_icmp .eq 104, 3), (91, .aload_n 0, 1), (92, .iload_n 2, 1), (93, .invokevirtual 244, 3), (96, .ifCond .eq 96, 3), (99, .aload_n 0, 1), (100, .lload_n 3, 1), (101, .ldc2_w 154, 3), (104, .lcmp, 1), (105, .ifCond .eq 32, 3), (108, .aload_n 0, 1), (109, .getfield 60, 3), (112, .iload_n 2, 1), (113, .iaload, 1), (114, .i2l, 1), (115, .lload_n 3, 1), (116, .lsub, 1), (117, .aload_n 0, 1), (118, .getfield 247, 3), (121, .lcmp, 1), (122, .ifCond .le 15, 3), (125, .aload_n 0, 1), (126, .getfield 60, 3), (129, .iload_n 2, 1), (130, .iaload, 1), (131, .i2l, 1), (132, .lload_n 3, 1), (133, .lsub, 1), (134, .goto 7, 3), (137, .aload_n 0, 1), (138, .getfield 247, 3), (141, .putfield 247, 3), (144, .aload_n 0, 1), (145, .lload 5, 2), (147, .ldc2_w 154, 3), (150, .lcmp, 1), (151, .ifCond .eq 34, 3), (154, .aload_n 0, 1), (155, .getfield 60, 3), (158, .iload_n 2, 1), (159, .iaload, 1), (160, .i2l, 1), (161, .lload 5, 2), (163, .ladd, 1), (164, .aload_n 0, 1), (165, .getfield 251, 3), (168, .lcmp, 1), (169, .ifCond .ge 16, 3), (172, .aload_n 0, 1), (173, .getfield 60, 3), (176, .iload_n 2, 1), (177, .iaload, 1), (178, .i2l, 1), (179, .lload 5, 2), (181, .ladd, 1), (182, .goto 7, 3), (185, .aload_n 0, 1), (186, .getfield 251, 3), (189, .putfield 251, 3), (192, .iinc 2 1, 3), (195, .goto (-163), 3), (198, .iconst 0, 1), (199, .istore_n 2, 1), (200, .iload_n 2, 1), (201, .aload_n 0, 1), (202, .getfield 78, 3), (205, .if_icmp .ge 98, 3), (208, .aload_n 0, 1), (209, .getfield 45, 3), (212, .bipush 6, 2), (214, .iload_n 1, 1), (215, .imul, 1), (216, .iload_n 2, 1), (217, .iadd, 1), (218, .laload, 1), (219, .lstore_n 3, 1), (220, .lload_n 3, 1), (221, .lconst 0, 1), (222, .lcmp, 1), (223, .ifCond .ge 74, 3), (226, .aload_n 0, 1), (227, .aload_n 0, 1), (228, .iload_n 2, 1), (229, .invokevirtual 197, 3), (232, .invokevirtual 244, 3), (235, .ifCond .ne 62, 3), (238, .aload_n 0, 1), (239, .aload_n 0, 1), (240, .iload_n 2, 1), (241, .invokevirtual 200, 3), (244, .invokevirtual 244, 3), (247, .ifCond .ne 5, 3), (250, .iconst 0, 1), (251, .ireturn, 1), (252, .aload_n 0, 1), (253, .aload_n 0, 1), (254, .getfield 60, 3), (257, .aload_n 0, 1), (258, .iload_n 2, 1), (259, .invokevirtual 200, 3), (262, .iaload, 1), (263, .i2l, 1), (264, .lload_n 3, 1), (265, .lsub, 1), (266, .aload_n 0, 1), (267, .getfield 247, 3), (270, .lcmp, 1), (271, .ifCond .le 19, 3), (274, .aload_n 0, 1), (275, .getfield 60, 3), (278, .aload_n 0, 1), (279, .iload_n 2, 1), (280, .invokevirtual 200, 3), (283, .iaload, 1), (284, .i2l, 1), (285, .lload_n 3, 1), (286, .lsub, 1), (287, .goto 7, 3), (290, .aload_n 0, 1), (291, .getfield 247, 3), (294, .putfield 247, 3), (297, .iinc 2 1, 3), (300, .goto (-100), 3), (303, .iconst 1, 1), (304, .ireturn, 1)]
def tm_181 : tkM := (6, 1, 1, 22, tc_181) -- TickPlansModel.hasTime(I)Z
def te_181 : tkE := (⟨"TickPlansModel", "hasTime", "(I)Z"⟩, prog_9_method_57_code, 7, (some .boolean), false, 1, tm_181)
def tc_182 : tkT := [(0, .aload_n 0, 1), (1, .iload_n 1, 1), (2, .invokevirtual 254, 3), (5, .ifCond .eq 33, 3), (8, .aload_n 0, 1), (9, .getfield 241, 3), (12, .i2l, 1), (13, .aload_n 0, 1), (14, .getfield 247, 3), (17, .lcmp, 1), (18, .ifCond .lt 20, 3), (21, .aload_n 0, 1), (22, .getfield 241, 3), (25, .i2l, 1), (26, .aload_n 0, 1), (27, .getfield 251, 3), (30, .lcmp, 1), (31, .ifCond .gt 7, 3), (34, .iconst 1, 1), (35, .goto 4, 3), (38, .iconst 0, 1), (39, .ireturn, 1)]
def tm_182 : tkM := (6, 1, 2, 48, tc_182) -- TickPlansModel.mayCome(I)Z
def te_182 : tkE := (⟨"TickPlansModel", "mayCome", "(I)Z"⟩, prog_9_method_58_code, 2, (some .boolean), false, 1, tm_182)
def tc_183 : tkT := [(0, .aload_n 0, 1), (1, .iload_n 1, 1), (2, .invokevirtual 89, 3), (5, .ifCond .eq 6, 3), (8, .bipush (-11), 2), (10, .ireturn, 1), (11, .aload_n 0, 1), (12, .iload_n 1, 1), (13, .invokevirtual 101, 3), (16, .istore_n 2, 1), (17, .aload_n 0, 1), (18, .getfield 67, 3), (21, .ifCond .eq 70, 3), (24, .iload_n 2, 1), (25, .ifCond .lt 66, 3), (28, .aload_n 0, 1), (29, .iload_n 1, 1), (30, .invokevirtual 244, 3), (33, .ifCond .ne 58, 3), (36, .aload_n 0, 1), (37, .aload_n 0, 1), (38, .iload_n 2, 1), (39, .invokevirtual 200, 3), (42, .invokevirtual 244, 3), (45, .ifCond .eq 46, 3), (48, .aload_n 0, 1), (49, .getfield 241, 3), (52, .aload_n 0, 1), (53, .getfield 60, 3), (56, .aload_n 0, 1), (57, .iload_n 2, 1), (58, .invokevirtual 200, 3), (61, .iaload, 1), (62, .isub, 1), (63, .aload_n 0, 1), (64, .getfield 16, 3), (67, .aload_n 0, 1), (68, .getfield 25, 3), (71, .iload_n 2, 1), (72, .iaload, 1), (73, .iaload, 1), (74, .aload_n 0, 1), (75, .getfield 19, 3), (78, .aload_n 0, 1), (79, .getfield 25, 3), (82, .iload_n 2, 1), (83, .iaload, 1), (84, .iaload, 1), (85, .invokestatic 74, 3), (88, .ifCond .ne 6, 3), (91, .bipush (-13), 2), (93, .ireturn, 1), (94, .aload_n 0, 1), (95, .getfield 60, 3), (98, .iload_n 1, 1), (99, .aload_n 0, 1), (100, .getfield 241, 3), (103, .iastore, 1), (104, .iconst 1, 1), (105, .ireturn, 1)]
def tm_183 : tkM := (6, 0, 2, 43, tc_183) -- TickPlansModel.happen(I)I
def te_183 : tkE := (⟨"TickPlansModel", "happen", "(I)I"⟩, prog_9_method_59_code, 3, (some .int), false, 1, tm_183)
def tc_184 : tkT := [(0, .aload_n 0, 1), (1, .getfield 67, 3), (4, .ifCond .eq 14, 3), (7, .aload_n 0, 1), (8, .aload_n 0, 1), (9, .getfield 241, 3), (12, .invokevirtual 257, 3), (15, .ifCond .eq 6, 3), (18, .bipush (-13), 2), (20, .ireturn, 1), (21, .iconst 0, 1), (22, .istore_n 1, 1), (23, .iconst 0, 1), (24, .istore_n 2, 1), (25, .iload_n 2, 1), (26, .aload_n 0, 1), (27, .getfield 70, 3), (30, .if_icmp .ge 35, 3), (33, .aload_n 0, 1), (34, .iload_n 2, 1), (35, .invokevirtual 260, 3), (38, .ifCond .eq 21, 3), (41, .aload_n 0, 1), (42, .getfield 60, 3), (45, .iload_n 2, 1), (46, .aload_n 0, 1), (47, .getfield 241, 3), (50, .iastore, 1), (51, .iinc 1 1, 3), (54, .iconst 0, 1), (55, .istore_n 2, 1), (56, .goto (-31), 3), (59, .iinc 2 1, 3), (62, .goto (-37), 3), (65, .aload_n 0, 1), (66, .dup, 1), (67, .getfield 241, 3), (70, .iconst 1, 1), (71, .iadd, 1), (72, .putfield 241, 3), (75, .iload_n 1, 1), (76, .ireturn, 1)]
def tm_184 : tkM := (6, 0, 3, 69, tc_184) -- TickPlansModel.goOn()I
def te_184 : tkE := (⟨"TickPlansModel", "goOn", "()I"⟩, prog_9_method_60_code, 3, (some .int), false, 0, tm_184)
def tc_185 : tkT := [(0, .iload_n 1, 1), (1, .iconst 0, 1), (2, .ldc_w 263, 3), (5, .invokestatic 74, 3), (8, .ifCond .ne 6, 3), (11, .bipush (-12), 2), (13, .ireturn, 1), (14, .aload_n 0, 1), (15, .getfield 67, 3), (18, .ifCond .eq 14, 3), (21, .aload_n 0, 1), (22, .aload_n 0, 1), (23, .getfield 241, 3), (26, .invokevirtual 257, 3), (29, .ifCond .eq 6, 3), (32, .bipush (-13), 2), (34, .ireturn, 1), (35, .aload_n 0, 1), (36, .getfield 241, 3), (39, .i2l, 1), (40, .iload_n 1, 1), (41, .i2l, 1), (42, .ladd, 1), (43, .lstore_n 2, 1), (44, .iconst 0, 1), (45, .istore 4, 2), (47, .iload 4, 2), (49, .aload_n 0, 1), (50, .getfield 70, 3), (53, .if_icmp .ge 69, 3), (56, .aload_n 0, 1), (57, .iload 4, 2), (59, .invokevirtual 254, 3), (62, .ifCond .eq 54, 3), (65, .aload_n 0, 1), (66, .getfield 247, 3), (69, .aload_n 0, 1), (70, .getfield 241, 3), (73, .i2l, 1), (74, .lcmp, 1), (75, .ifCond .le 10, 3), (78, .aload_n 0, 1), (79, .getfield 247, 3), (82, .goto 8, 3), (85, .aload_n 0, 1), (86, .getfield 241, 3), (89, .i2l, 1), (90, .lstore 5, 2), (92, .lload 5, 2), (94, .aload_n 0, 1), (95, .getfield 251, 3), (98, .lcmp, 1), (99, .ifCond .gt 15, 3), (102, .lload 5, 2), (104, .lload_n 2, 1), (105, .lcmp, 1), (106, .ifCond .ge 8, 3), (109, .lload 5, 2), (111, .goto 4, 3), (114, .lload_n 2, 1), (115, .lstore_n 2, 1), (116, .iinc 4 1, 3), (119, .goto (-72), 3), (122, .iconst 0, 1), (123, .istore 4, 2), (125, .iload 4, 2), (127, .aload_n 0, 1), (128, .getfield 78, 3), (131, .if_icmp .ge 77, 3), (134, .aload_n 0, 1), (135, .aload_n 0, 1), (136, .iload 4, 2), (138, .invokevirtual 197, 3), (141, .invokevirtual 244, 3), (144, .ifCond .ne 58, 3), (147, .aload_n 0, 1), (148, .aload_n 0, 1), (149, .iload 4, 2), (151, .invokevirtual 200, 3), (154, .invokevirtual 244, 3), (157, .ifCond .eq 45, 3), (160, .aload_n 0, 1), (161, .getfield 60, 3), (164, .aload_n 0, 1), (165, .iload 4, 2), (167, .invokevirtual 200, 3), (170, .iaload, 1), (171, .i2l, 1), (172, .aload_n 0, 1), (173, .getfield 19, 3), (176, .aload_n 0, 1), (177, .getfield 25, 3), (180, .iload 4, 2), (182, .iaload, 1), (183, .iaload, 1), (184, .i2l, 1), (185, .ladd, 1), (186, .lstore 5, 2), (188, .lload 5, 2), (190, .lload_n 2, 1), (191, .lcmp, 1), (192, .ifCond .ge 8, 3), (195, .lload 5, 2), (197, .goto 4, 3), (200, .lload_n 2, 1), (201, .lstore_n 2, 1), (202, .iinc 4 1, 3), (205, .goto (-80), 3), (208, .lload_n 2, 1), (209, .aload_n 0, 1), (210, .getfield 241, 3), (213, .i2l, 1), (214, .lsub, 1), (215, .l2i, 1), (216, .istore 4, 2), (218, .aload_n 0, 1), (219, .lload_n 2, 1), (220, .l2i, 1), (221, .putfield 241, 3), (224, .iload 4, 2), (226, .ireturn, 1)]
def tm_185 : tkM := (6, 0, 2, 48, tc_185) -- TickPlansModel.idle(I)I
def te_185 : tkE := (⟨"TickPlansModel", "idle", "(I)I"⟩, prog_9_method_61_code, 7, (some .int), false, 1, tm_185)
def tc_186 : tkT := [(0, .aload_n 0, 1), (1, .iload_n 1, 1), (2, .invokevirtual 89, 3), (5, .ifCond .eq 6, 3), (8, .bipush (-11), 2), (10, .ireturn, 1), (11, .aload_n 0, 1), (12, .getfield 67, 3), (15, .ifCond .eq 12, 3), (18, .aload_n 0, 1), (19, .getfield 60, 3), (22, .iload_n 1, 1), (23, .iaload, 1), (24, .goto 5, 3), (27, .bipush (-13), 2), (29, .ireturn, 1)]
def tm_186 : tkM := (6, 0, 2, 43, tc_186) -- TickPlansModel.came(I)I
def te_186 : tkE := (⟨"TickPlansModel", "came", "(I)I"⟩, prog_9_method_62_code, 2, (some .int), false, 1, tm_186)
def tc_187 : tkT := [(0, .aload_n 0, 1), (1, .iload_n 1, 1), (2, .invokevirtual 89, 3), (5, .ifCond .eq 6, 3), (8, .bipush (-11), 2), (10, .ireturn, 1), (11, .aload_n 0, 1), (12, .getfield 67, 3), (15, .ifCond .eq 19, 3), (18, .aload_n 0, 1), (19, .iload_n 1, 1), (20, .invokevirtual 101, 3), (23, .ifCond .ge 11, 3), (26, .aload_n 0, 1), (27, .iload_n 1, 1), (28, .invokevirtual 244, 3), (31, .ifCond .eq 8, 3), (34, .bipush (-13), 2), (36, .goto 16, 3), (39, .aload_n 0, 1), (40, .iload_n 1, 1), (41, .invokevirtual 260, 3), (44, .ifCond .eq 7, 3), (47, .iconst 1, 1), (48, .goto 4, 3), (51, .iconst 0, 1), (52, .ireturn, 1)]
def tm_187 : tkM := (6, 0, 3, 69, tc_187) -- TickPlansModel.may(I)I
def te_187 : tkE := (⟨"TickPlansModel", "may", "(I)I"⟩, prog_9_method_63_code, 2, (some .int), false, 1, tm_187)
def tc_188 : tkT := [(0, .aload_n 0, 1), (1, .getfield 67, 3), (4, .ifCond .eq 10, 3), (7, .aload_n 0, 1), (8, .getfield 241, 3), (11, .goto 5, 3), (14, .bipush (-13), 2), (16, .ireturn, 1)]
def tm_188 : tkM := (6, 0, 0, 0, tc_188) -- TickPlansModel.now()I
def te_188 : tkE := (⟨"TickPlansModel", "now", "()I"⟩, prog_9_method_64_code, 1, (some .int), false, 0, tm_188)
def tc_189 : tkT := [(0, .aload_n 0, 1), (1, .getfield 67, 3), (4, .ifCond .ne 6, 3), (7, .bipush (-13), 2), (9, .ireturn, 1), (10, .iconst 0, 1), (11, .istore_n 1, 1), (12, .iload_n 1, 1), (13, .aload_n 0, 1), (14, .getfield 70, 3), (17, .if_icmp .ge 19, 3), (20, .aload_n 0, 1), (21, .iload_n 1, 1), (22, .invokevirtual 244, 3), (25, .ifCond .ne 5, 3), (28, .iconst 0, 1), (29, .ireturn, 1), (30, .iinc 1 1, 3), (33, .goto (-21), 3), (36, .iconst 0, 1), (37, .istore_n 1, 1), (38, .iload_n 1, 1), (39, .aload_n 0, 1), (40, .getfield 86, 3), (43, .if_icmp .ge 55, 3), (46, .aload_n 0, 1), (47, .getfield 60, 3), (50, .aload_n 0, 1), (51, .getfield 13, 3), (54, .iload_n 1, 1), (55, .iaload, 1), (56, .iaload, 1), (57, .aload_n 0, 1), (58, .getfield 60, 3), (61, .aload_n 0, 1), (62, .getfield 7, 3), (65, .iload_n 1, 1), (66, .iaload, 1), (67, .iaload, 1), (68, .isub, 1), (69, .aload_n 0, 1), (70, .getfield 16, 3), (73, .iload_n 1, 1), (74, .iaload, 1), (75, .aload_n 0, 1), (76, .getfield 19, 3), (79, .iload_n 1, 1), (80, .iaload, 1), (81, .invokestatic 74, 3), (84, .ifCond .ne 8, 3), (87, .bipush (-20), 2), (89, .iload_n 1, 1), (90, .isub, 1), (91, .ireturn, 1), (92, .iinc 1 1, 3), (95, .goto (-57), 3), (98, .iconst 1, 1), (99, .ireturn, 1)]
def tm_189 : tkM := (6, 0, 1, 22, tc_189) -- TickPlansModel.check()I
def te_189 : tkE := (⟨"TickPlansModel", "check", "()I"⟩, prog_9_method_65_code, 2, (some .int), false, 0, tm_189)
def tc_190 : tkT := [(0, .iload_n 1, 1), (1, .tableswitch 98 0 4 #[35, 40, 45, 50, 93], 35), (36, .aload_n 0, 1), (37, .getfield 70, 3), (40, .ireturn, 1), (41, .aload_n 0, 1), (42, .getfield 86, 3), (45, .ireturn, 1), (46, .aload_n 0, 1), (47, .getfield 78, 3), (50, .ireturn, 1), (51, .iconst 0, 1), (52, .istore_n 2, 1), (53, .iconst 0, 1), (54, .istore_n 3, 1), (55, .iload_n 3, 1), (56, .aload_n 0, 1), (57, .getfield 70, 3), (60, .if_icmp .ge 32, 3), (63, .aload_n 0, 1), (64, .getfield 67, 3), (67, .ifCond .eq 25, 3), (70, .iload_n 2, 1), (71, .aload_n 0, 1), (72, .iload_n 3, 1), (73, .invokevirtual 244, 3), (76, .ifCond .eq 7, 3), (79, .iconst 1, 1), (80, .goto 4, 3), (83, .iconst 0, 1), (84, .iadd, 1), (85, .istore_n 2, 1), (86, .iinc 3 1, 3), (89, .goto (-34), 3), (92, .iload_n 2, 1), (93, .ireturn, 1), (94, .aload_n 0, 1), (95, .getfield 108, 3), (98, .ireturn, 1), (99, .bipush (-12), 2), (101, .ireturn, 1)]
def tm_190 : tkM := (6, 0, 1, 21, tc_190) -- TickPlansModel.told(I)I
def te_190 : tkE := (⟨"TickPlansModel", "told", "(I)I"⟩, prog_9_method_66_code, 4, (some .int), false, 1, tm_190)
def tc_191 : tkT := [(0, .iconst 0, 1), (1, .istore_n 3, 1), (2, .aload_n 0, 1), (3, .arraylength, 1), (4, .istore 4, 2), (6, .iload_n 3, 1), (7, .iload 4, 2), (9, .if_icmp .ge 13, 3), (12, .aload_n 0, 1), (13, .iload_n 3, 1), (14, .lload_n 1, 1), (15, .lastore, 1), (16, .iinc 3 1, 3), (19, .goto (-13), 3), (22, .return_, 1)]
def tm_191 : tkM := (9, 3, 0, 0, tc_191) -- java/util/Arrays.fill([JJ)V
def te_191 : tkE := (⟨"java/util/Arrays", "fill", "([JJ)V"⟩, prog_12_method_101_code, 5, none, true, 2, tm_191)
def tc_192 : tkT := [(0, .iconst 0, 1), (1, .istore_n 2, 1), (2, .aload_n 0, 1), (3, .arraylength, 1), (4, .istore_n 3, 1), (5, .iload_n 2, 1), (6, .iload_n 3, 1), (7, .if_icmp .ge 13, 3), (10, .aload_n 0, 1), (11, .iload_n 2, 1), (12, .iload_n 1, 1), (13, .iastore, 1), (14, .iinc 2 1, 3), (17, .goto (-12), 3), (20, .return_, 1)]
def tm_192 : tkM := (9, 3, 0, 0, tc_192) -- java/util/Arrays.fill([II)V
def te_192 : tkE := (⟨"java/util/Arrays", "fill", "([II)V"⟩, prog_12_method_103_code, 4, none, true, 2, tm_192)
def tk_all : List tkE := [te_0, te_1, te_2, te_3, te_4, te_5, te_6, te_7, te_8, te_9, te_10, te_11, te_12, te_13, te_14, te_15, te_16, te_17, te_18, te_19, te_20, te_21, te_22, te_23, te_24, te_25, te_26, te_27, te_28, te_29, te_30, te_31, te_32, te_33, te_34, te_35, te_36, te_37, te_38, te_39, te_40, te_41, te_42, te_43, te_44, te_45, te_46, te_47, te_48, te_49, te_50, te_51, te_52, te_53, te_54, te_55, te_56, te_57, te_58, te_59, te_60, te_61, te_62, te_63, te_64, te_65, te_66, te_67, te_68, te_69, te_70, te_71, te_72, te_73, te_74, te_75, te_76, te_77, te_78, te_79, te_80, te_81, te_82, te_83, te_84, te_85, te_86, te_87, te_88, te_89, te_90, te_91, te_92, te_93, te_94, te_95, te_96, te_97, te_98, te_99, te_100, te_101, te_102, te_103, te_104, te_105, te_106, te_107, te_108, te_109, te_110, te_111, te_112, te_113, te_114, te_115, te_116, te_117, te_118, te_119, te_120, te_121, te_122, te_123, te_124, te_125, te_126, te_127, te_128, te_129, te_130, te_131, te_132, te_133, te_134, te_135, te_136, te_137, te_138, te_139, te_140, te_141, te_142, te_143, te_144, te_145, te_146, te_147, te_148, te_149, te_150, te_151, te_152, te_153, te_154, te_155, te_156, te_157, te_158, te_159, te_160, te_161, te_162, te_163, te_164, te_165, te_166, te_167, te_168, te_169, te_170, te_171, te_172, te_173, te_174, te_175, te_176, te_177, te_178, te_179, te_180, te_181, te_182, te_183, te_184, te_185, te_186, te_187, te_188, te_189, te_190, te_191, te_192]
end
section
/-! what a program decides of the data -/
def tk_code (q : tkE) : Cond := .code q.1 q.2.1 q.2.2.1 q.2.2.2.1
theorem tk_mem_of {big ws : List Cond} (ps : List Nat) (hp : ws.map some = ps.map (fun i => big[i]?)) : ∀ w ∈ ws, w ∈ big := by
  intro w hw
  have h1 : some w ∈ ps.map (fun i => big[i]?) := by rw [← hp]; exact List.mem_map.mpr ⟨w, hw, rfl⟩
  obtain ⟨i, -, hi⟩ := List.mem_map.mp h1
  exact List.mem_of_getElem? hi
set_option maxRecDepth 100000 in
theorem tk_codes : ∀ w ∈ tk_all.map tk_code, w ∈ lw_tbl := tk_mem_of [243, 406, 464, 473, 480, 509, 485, 490, 520, 524, 528, 364, 446, 398, 494, 268, 324, 540, 312, 424, 428, 432, 436, 300, 532, 506, 502, 498, 292, 288, 235, 259, 284, 308, 320, 332, 276, 264, 271, 296, 651, 251, 662, 764, 772, 747, 671, 705, 678, 666, 686, 691, 756, 696, 700, 739, 710, 714, 723, 728, 777, 419, 412, 442, 439, 409, 449, 455, 452, 348, 394, 340, 344, 356, 368, 376, 379, 387, 372, 383, 247, 549, 627, 635, 643, 565, 553, 558, 570, 585, 589, 597, 604, 608, 616, 611, 619, 573, 231, 255, 280, 304, 316, 328, 336, 352, 360, 402, 459, 469, 516, 536, 545, 623, 631, 639, 647, 658, 682, 734, 743, 751, 760, 768, 786, 239, 906, 910, 918, 935, 903, 921, 927, 914, 939, 931, 943, 947, 951, 955, 959, 975, 971, 983, 979, 967, 990, 963, 1002, 1007, 1011, 998, 994, 1015, 1024, 1028, 1020, 1036, 1032, 1040, 1071, 1083, 1091, 1068, 1079, 1052, 1060, 1064, 1075, 1087, 1095, 1100, 1056, 1048, 1044, 1104, 1108, 1112, 1116, 1124, 1132, 1140, 1136, 1120, 1128, 1144, 1149, 1153, 1157, 1161, 1165, 416, 654] (by rfl)
def tk_w1 (q : tkE) : Cond := if q.2.2.2.2.1 then .static q.1 else .instanceMethod q.1
def tk_w2 (q : tkE) : Cond := if q.2.2.2.2.1 then .static q.1 else .selects q.1.cls q.1 q.1
set_option maxRecDepth 100000 in
theorem tk_w1s : ∀ w ∈ tk_all.map tk_w1, w ∈ lw_tbl := tk_mem_of [241, 404, 462, 471, 479, 508, 484, 489, 518, 523, 527, 362, 444, 396, 492, 266, 322, 538, 310, 422, 426, 430, 434, 298, 530, 504, 500, 496, 290, 286, 233, 257, 282, 306, 318, 330, 275, 263, 270, 295, 649, 249, 660, 762, 770, 745, 669, 703, 676, 664, 684, 690, 754, 694, 699, 737, 709, 713, 722, 727, 775, 418, 411, 441, 438, 408, 448, 454, 451, 346, 392, 338, 342, 354, 366, 375, 378, 386, 371, 382, 245, 547, 625, 633, 641, 564, 552, 557, 569, 584, 588, 596, 603, 607, 615, 610, 618, 572, 229, 253, 278, 302, 314, 326, 334, 350, 358, 400, 457, 467, 514, 534, 543, 621, 629, 637, 645, 656, 680, 732, 741, 749, 758, 766, 784, 238, 905, 909, 917, 934, 901, 920, 926, 912, 938, 929, 941, 945, 949, 953, 957, 974, 970, 982, 978, 966, 989, 961, 1001, 1006, 1010, 997, 992, 1013, 1023, 1027, 1018, 1035, 1030, 1038, 1070, 1082, 1090, 1067, 1078, 1051, 1059, 1063, 1074, 1086, 1094, 1099, 1055, 1047, 1042, 1102, 1106, 1110, 1114, 1123, 1131, 1139, 1135, 1118, 1126, 1142, 1147, 1151, 1155, 1159, 1163, 415, 653] (by decide +kernel)
set_option maxRecDepth 100000 in
theorem tk_w2s : ∀ w ∈ tk_all.map tk_w2, w ∈ lw_tbl := tk_mem_of [242, 405, 463, 472, 8, 508, 484, 489, 519, 9, 10, 363, 445, 397, 493, 267, 323, 539, 311, 423, 427, 431, 435, 299, 531, 505, 501, 497, 291, 287, 234, 258, 283, 307, 319, 331, 2, 1, 270, 3, 650, 250, 661, 763, 771, 746, 670, 704, 677, 665, 685, 20, 755, 695, 21, 738, 22, 23, 24, 25, 776, 418, 411, 441, 438, 408, 448, 454, 451, 347, 393, 339, 343, 355, 367, 5, 378, 7, 4, 6, 246, 548, 626, 634, 642, 564, 11, 12, 13, 14, 15, 16, 17, 18, 19, 610, 618, 572, 230, 254, 279, 303, 315, 327, 335, 351, 359, 401, 458, 468, 515, 535, 544, 622, 630, 638, 646, 657, 681, 733, 742, 750, 759, 767, 785, 0, 905, 26, 27, 29, 902, 920, 28, 913, 30, 930, 942, 946, 950, 954, 958, 33, 32, 35, 34, 31, 36, 962, 38, 39, 40, 37, 993, 1014, 41, 42, 1019, 43, 1031, 1039, 1070, 52, 54, 49, 51, 45, 47, 48, 50, 53, 55, 56, 46, 44, 1043, 1103, 1107, 1111, 1115, 57, 58, 60, 59, 1119, 1127, 1143, 1148, 1152, 1156, 1160, 1164, 415, 653] (by decide +kernel)
set_option maxRecDepth 100000 in
theorem tk_inis : ∀ w ∈ tk_all.map (fun q => Cond.initialized q.1.cls), w ∈ lw_tbl := tk_mem_of [65, 65, 65, 65, 65, 65, 65, 65, 65, 65, 65, 63, 63, 63, 63, 63, 63, 63, 63, 63, 63, 63, 63, 63, 63, 63, 63, 63, 63, 63, 63, 63, 63, 63, 63, 63, 63, 63, 63, 63, 67, 67, 67, 67, 67, 67, 67, 67, 67, 67, 67, 67, 67, 67, 67, 67, 67, 67, 67, 67, 67, 69, 69, 69, 69, 69, 69, 69, 69, 64, 64, 64, 64, 64, 64, 64, 64, 64, 64, 64, 66, 66, 66, 66, 66, 66, 66, 66, 66, 66, 66, 66, 66, 66, 66, 66, 66, 66, 62, 62, 62, 62, 62, 62, 62, 62, 62, 62, 62, 62, 62, 62, 62, 62, 62, 62, 62, 62, 62, 62, 62, 62, 62, 62, 62, 62, 68, 68, 68, 68, 68, 68, 68, 68, 68, 68, 68, 68, 68, 68, 68, 68, 68, 68, 68, 68, 68, 68, 68, 68, 68, 68, 68, 68, 68, 68, 68, 68, 68, 68, 68, 68, 68, 68, 68, 68, 68, 68, 68, 68, 68, 68, 68, 68, 68, 68, 68, 68, 68, 68, 68, 68, 68, 68, 68, 68, 68, 68, 68, 68, 68, 70, 70] (by decide +kernel)
def tk_fw (q : Nat × Nat × Nat) : Cond := .fieldLink (tk_cn q.1) q.2.1 (tk_cn q.1) (tk_T q.1 q.2.2).2.1 (tk_T q.1 q.2.2).2.2.1
set_option maxRecDepth 100000 in
theorem tk_fws : ∀ w ∈ tk_FL.map tk_fw, w ∈ lw_tbl := tk_mem_of [87, 88, 89, 90, 91, 92, 93, 94, 95, 122, 123, 124, 125, 126, 145, 146, 147, 162, 163, 164, 165, 166, 167, 168, 169, 170, 196, 197, 198, 199, 209, 210, 211, 212, 213, 214, 794, 795, 796, 797, 798, 799, 800, 801, 802, 803, 804, 805, 806, 807, 808, 809, 810, 811, 812, 813, 814, 815, 816, 817, 818, 819, 820, 821, 822, 823, 824, 825, 826, 827, 828] (by decide +kernel)
def tk_mw (q : Nat × Nat × Nat) : Cond := match tk_all[q.2.2]? with
  | some e => .methodLink (tk_cn q.1) q.2.1 e.1
  | none => .tt
set_option maxRecDepth 100000 in
theorem tk_mws : ∀ w ∈ tk_ML.map tk_mw, w ∈ lw_tbl := tk_mem_of [232, 236, 240, 244, 248, 256, 261, 265, 269, 273, 281, 285, 289, 293, 297, 305, 309, 317, 321, 329, 337, 341, 345, 353, 361, 365, 369, 373, 377, 380, 384, 388, 389, 390, 391, 395, 403, 407, 410, 414, 417, 420, 421, 425, 429, 433, 437, 440, 443, 447, 450, 453, 460, 461, 465, 470, 474, 475, 476, 477, 481, 482, 483, 486, 487, 488, 491, 495, 499, 503, 507, 510, 511, 512, 517, 521, 525, 529, 537, 541, 546, 550, 554, 555, 560, 561, 562, 563, 566, 567, 571, 580, 581, 582, 586, 590, 594, 598, 599, 600, 601, 605, 609, 613, 617, 624, 632, 640, 648, 652, 659, 663, 667, 668, 672, 673, 674, 675, 683, 687, 688, 692, 693, 697, 701, 702, 706, 707, 711, 715, 720, 724, 725, 730, 736, 744, 752, 753, 761, 769, 773, 774, 778, 779, 780, 781, 782, 787, 904, 907, 915, 919, 924, 932, 936, 964, 968, 972, 976, 980, 984, 985, 986, 987, 995, 999, 1004, 1008, 1016, 1021, 1025, 1033, 1045, 1049, 1053, 1057, 1061, 1065, 1069, 1072, 1076, 1080, 1084, 1088, 1092, 1097, 1121, 1129, 1133, 1137] (by decide +kernel)
set_option maxRecDepth 100000 in
theorem tk_kis : ∀ w ∈ tk_KI.map (fun q => Cond.constant (tk_cn q.1) q.2.1 q.2.2), w ∈ lw_tbl := tk_mem_of [260, 272, 735, 922, 923, 1145] (by decide +kernel)
set_option maxRecDepth 100000 in
theorem tk_kls : ∀ w ∈ tk_KL.map (fun q => Cond.constantLong (tk_cn q.1) q.2.1 q.2.2), w ∈ lw_tbl := tk_mem_of [413, 559, 612, 716, 1003, 1096] (by decide +kernel)
def tk_nn (k : Nat) : MethodName := match k with
  | 1 => arraycopyName
  | 2 => Lib.MathLoose.max_long.x
  | 3 => Lib.MathLoose.min_long.x
  | _ => Lib.Math.min.name
set_option maxRecDepth 100000 in
theorem tk_cps : ∀ w ∈ tk_CP.map (fun q => Cond.methodLink (tk_cn q.1) q.2.1 (tk_nn q.2.2)), w ∈ lw_tbl := tk_mem_of [574, 577, 591, 717, 729] (by decide +kernel)
set_option maxRecDepth 100000 in
theorem tk_cpw : ∀ w ∈ [Cond.native arraycopyName, .static arraycopyName, .initialized "java/lang/System", .static Lib.MathLoose.max_long.x, .static Lib.MathLoose.min_long.x, .static Lib.Math.min.name, .initialized "java/lang/Math"], w ∈ lw_tbl := tk_mem_of [579, 578, 72, 718, 592, 575, 71] (by decide +kernel)
set_option maxRecDepth 100000 in
theorem tk_cpc : ∀ w ∈ [Cond.code Lib.MathLoose.max_long.x Lib.MathLoose.max_long.code 4 (some .long), .code Lib.MathLoose.min_long.x Lib.MathLoose.min_long.code 4 (some .long), .code Lib.Math.min.name Lib.Math.min.code 2 (some .int)], w ∈ lw_tbl := tk_mem_of [719, 593, 576] (by rfl)
set_option maxRecDepth 100000 in
theorem tk_in_0 : ∀ w ∈ u_ws (tk_cn 0) (tk_T 0) 3, w ∈ lw_tbl := tk_mem_of [148, 150, 152] (by decide +kernel)
set_option maxRecDepth 100000 in
theorem tk_in_1 : ∀ w ∈ u_ws (tk_cn 1) (tk_T 1) 9, w ∈ lw_tbl := tk_mem_of [96, 98, 100, 102, 104, 106, 108, 110, 112] (by decide +kernel)
set_option maxRecDepth 100000 in
theorem tk_in_2 : ∀ w ∈ u_ws (tk_cn 2) (tk_T 2) 4, w ∈ lw_tbl := tk_mem_of [200, 202, 204, 206] (by decide +kernel)
set_option maxRecDepth 100000 in
theorem tk_in_3 : ∀ w ∈ u_ws (tk_cn 3) (tk_T 3) 5, w ∈ lw_tbl := tk_mem_of [127, 129, 131, 133, 135] (by decide +kernel)
set_option maxRecDepth 100000 in
theorem tk_in_4 : ∀ w ∈ u_ws (tk_cn 4) (tk_T 4) 9, w ∈ lw_tbl := tk_mem_of [171, 173, 175, 177, 179, 181, 183, 185, 187] (by decide +kernel)
set_option maxRecDepth 100000 in
theorem tk_in_5 : ∀ w ∈ u_ws (tk_cn 5) (tk_T 5) 6, w ∈ lw_tbl := tk_mem_of [215, 217, 219, 221, 223, 225] (by decide +kernel)
set_option maxRecDepth 100000 in
theorem tk_in_6 : ∀ w ∈ u_ws (tk_cn 6) (tk_T 6) 35, w ∈ lw_tbl := tk_mem_of [829, 831, 833, 835, 837, 839, 841, 843, 845, 847, 849, 851, 853, 855, 857, 859, 861, 863, 865, 867, 869, 871, 873, 875, 877, 879, 881, 883, 885, 887, 889, 891, 893, 895, 897] (by decide +kernel)
theorem tk_tyok : ∀ ci, ci < 7 → ∀ k, k < tk_N ci → parseFieldDescriptor (tk_T ci k).2.2.1 = some (tk_ty ci k) := by decide +kernel
theorem tk_nm : ∀ ci, ci < 7 → ∀ a, a < tk_N ci → ∀ b, b < tk_N ci → a ≠ b → (tk_T ci a).2.1 ≠ (tk_T ci b).2.1 := by decide +kernel
theorem tk_clsAt : ∀ ci, ci < 7 → tk_cls[ci]? = some (tk_cn ci, tk_T ci, tk_N ci) := by
  intro ci h
  match ci, h with
  | 0, _ => rfl
  | 1, _ => rfl
  | 2, _ => rfl
  | 3, _ => rfl
  | 4, _ => rfl
  | 5, _ => rfl
  | 6, _ => rfl
end
section
set_option maxRecDepth 100000 in
theorem td_0 : ∀ x ∈ tc_0, decode prog_2_method_2_code x.1 = .ok x.2 := by decide +kernel
set_option maxRecDepth 100000 in
theorem td_1 : ∀ x ∈ tc_1, decode prog_2_method_3_code x.1 = .ok x.2 := by decide +kernel
set_option maxRecDepth 100000 in
theorem td_2 : ∀ x ∈ tc_2, decode prog_2_method_4_code x.1 = .ok x.2 := by decide +kernel
set_option maxRecDepth 100000 in
theorem td_3 : ∀ x ∈ tc_3, decode prog_2_method_5_code x.1 = .ok x.2 := by decide +kernel
set_option maxRecDepth 100000 in
theorem td_4 : ∀ x ∈ tc_4, decode prog_2_method_6_code x.1 = .ok x.2 := by decide +kernel
set_option maxRecDepth 100000 in
theorem td_5 : ∀ x ∈ tc_5, decode prog_2_method_7_code x.1 = .ok x.2 := by decide +kernel
set_option maxRecDepth 100000 in
theorem td_6 : ∀ x ∈ tc_6, decode prog_2_method_8_code x.1 = .ok x.2 := by decide +kernel
set_option maxRecDepth 100000 in
theorem td_7 : ∀ x ∈ tc_7, decode prog_2_method_9_code x.1 = .ok x.2 := by decide +kernel
set_option maxRecDepth 100000 in
theorem td_8 : ∀ x ∈ tc_8, decode prog_2_method_10_code x.1 = .ok x.2 := by decide +kernel
set_option maxRecDepth 100000 in
theorem td_9 : ∀ x ∈ tc_9, decode prog_2_method_11_code x.1 = .ok x.2 := by decide +kernel
set_option maxRecDepth 100000 in
theorem td_10 : ∀ x ∈ tc_10, decode prog_2_method_12_code x.1 = .ok x.2 := by decide +kernel
set_option maxRecDepth 100000 in
theorem td_11 : ∀ x ∈ tc_11, decode prog_3_method_2_code x.1 = .ok x.2 := by decide +kernel
set_option maxRecDepth 100000 in
theorem td_12 : ∀ x ∈ tc_12, decode prog_3_method_3_code x.1 = .ok x.2 := by decide +kernel
set_option maxRecDepth 100000 in
theorem td_13 : ∀ x ∈ tc_13, decode prog_3_method_4_code x.1 = .ok x.2 := by decide +kernel
set_option maxRecDepth 100000 in
theorem td_14 : ∀ x ∈ tc_14, decode prog_3_method_5_code x.1 = .ok x.2 := by decide +kernel
set_option maxRecDepth 100000 in
theorem td_15 : ∀ x ∈ tc_15, decode prog_3_method_6_code x.1 = .ok x.2 := by decide +kernel
set_option maxRecDepth 100000 in
theorem td_16 : ∀ x ∈ tc_16, decode prog_3_method_7_code x.1 = .ok x.2 := by decide +kernel
set_option maxRecDepth 100000 in
theorem td_17 : ∀ x ∈ tc_17, decode prog_3_method_8_code x.1 = .ok x.2 := by decide +kernel
set_option maxRecDepth 100000 in
theorem td_18 : ∀ x ∈ tc_18, decode prog_3_method_9_code x.1 = .ok x.2 := by decide +kernel
set_option maxRecDepth 100000 in
theorem td_19 : ∀ x ∈ tc_19, decode prog_3_method_10_code x.1 = .ok x.2 := by decide +kernel
set_option maxRecDepth 100000 in
theorem td_20 : ∀ x ∈ tc_20, decode prog_3_method_11_code x.1 = .ok x.2 := by decide +kernel
set_option maxRecDepth 100000 in
theorem td_21 : ∀ x ∈ tc_21, decode prog_3_method_12_code x.1 = .ok x.2 := by decide +kernel
set_option maxRecDepth 100000 in
theorem td_22 : ∀ x ∈ tc_22, decode prog_3_method_13_code x.1 = .ok x.2 := by decide +kernel
set_option maxRecDepth 100000 in
theorem td_23 : ∀ x ∈ tc_23, decode prog_3_method_14_code x.1 = .ok x.2 := by decide +kernel
set_option maxRecDepth 100000 in
theorem td_24 : ∀ x ∈ tc_24, decode prog_3_method_15_code x.1 = .ok x.2 := by decide +kernel
set_option maxRecDepth 100000 in
theorem td_25 : ∀ x ∈ tc_25, decode prog_3_method_16_code x.1 = .ok x.2 := by decide +kernel
set_option maxRecDepth 100000 in
theorem td_26 : ∀ x ∈ tc_26, decode prog_3_method_17_code x.1 = .ok x.2 := by decide +kernel
set_option maxRecDepth 100000 in
theorem td_27 : ∀ x ∈ tc_27, decode prog_3_method_18_code x.1 = .ok x.2 := by decide +kernel
set_option maxRecDepth 100000 in
theorem td_28 : ∀ x ∈ tc_28, decode prog_3_method_19_code x.1 = .ok x.2 := by decide +kernel
set_option maxRecDepth 100000 in
theorem td_29 : ∀ x ∈ tc_29, decode prog_3_method_20_code x.1 = .ok x.2 := by decide +kernel
set_option maxRecDepth 100000 in
theorem td_30 : ∀ x ∈ tc_30, decode prog_3_method_21_code x.1 = .ok x.2 := by decide +kernel
set_option maxRecDepth 100000 in
theorem td_31 : ∀ x ∈ tc_31, decode prog_3_method_22_code x.1 = .ok x.2 := by decide +kernel
set_option maxRecDepth 100000 in
theorem td_32 : ∀ x ∈ tc_32, decode prog_3_method_23_code x.1 = .ok x.2 := by decide +kernel
set_option maxRecDepth 100000 in
theorem td_33 : ∀ x ∈ tc_33, decode prog_3_method_24_code x.1 = .ok x.2 := by decide +kernel
set_option maxRecDepth 100000 in
theorem td_34 : ∀ x ∈ tc_34, decode prog_3_method_25_code x.1 = .ok x.2 := by decide +kernel
set_option maxRecDepth 100000 in
theorem td_35 : ∀ x ∈ tc_35, decode prog_3_method_26_code x.1 = .ok x.2 := by decide +kernel
set_option maxRecDepth 100000 in
theorem td_36 : ∀ x ∈ tc_36, decode prog_3_method_27_code x.1 = .ok x.2 := by decide +kernel
set_option maxRecDepth 100000 in
theorem td_37 : ∀ x ∈ tc_37, decode prog_3_method_28_code x.1 = .ok x.2 := by decide +kernel
set_option maxRecDepth 100000 in
theorem td_38 : ∀ x ∈ tc_38, decode prog_3_method_29_code x.1 = .ok x.2 := by decide +kernel
set_option maxRecDepth 100000 in
theorem td_39 : ∀ x ∈ tc_39, decode prog_3_method_30_code x.1 = .ok x.2 := by decide +kernel
set_option maxRecDepth 100000 in
theorem td_40 : ∀ x ∈ tc_40, decode prog_4_method_2_code x.1 = .ok x.2 := by decide +kernel
set_option maxRecDepth 100000 in
theorem td_41 : ∀ x ∈ tc_41, decode prog_4_method_3_code x.1 = .ok x.2 := by decide +kernel
set_option maxRecDepth 100000 in
theorem td_42 : ∀ x ∈ tc_42, decode prog_4_method_4_code x.1 = .ok x.2 := by decide +kernel
set_option maxRecDepth 100000 in
theorem td_43 : ∀ x ∈ tc_43, decode prog_4_method_5_code x.1 = .ok x.2 := by decide +kernel
set_option maxRecDepth 100000 in
theorem td_44 : ∀ x ∈ tc_44, decode prog_4_method_6_code x.1 = .ok x.2 := by decide +kernel
set_option maxRecDepth 100000 in
theorem td_45 : ∀ x ∈ tc_45, decode prog_4_method_7_code x.1 = .ok x.2 := by decide +kernel
set_option maxRecDepth 100000 in
theorem td_46 : ∀ x ∈ tc_46, decode prog_4_method_8_code x.1 = .ok x.2 := by decide +kernel
set_option maxRecDepth 100000 in
theorem td_47 : ∀ x ∈ tc_47, decode prog_4_method_9_code x.1 = .ok x.2 := by decide +kernel
end
section
set_option maxRecDepth 100000 in
theorem td_48 : ∀ x ∈ tc_48, decode prog_4_method_10_code x.1 = .ok x.2 := by decide +kernel
set_option maxRecDepth 100000 in
theorem td_49 : ∀ x ∈ tc_49, decode prog_4_method_11_code x.1 = .ok x.2 := by decide +kernel
set_option maxRecDepth 100000 in
theorem td_50 : ∀ x ∈ tc_50, decode prog_4_method_12_code x.1 = .ok x.2 := by decide +kernel
set_option maxRecDepth 100000 in
theorem td_51 : ∀ x ∈ tc_51, decode prog_4_method_13_code x.1 = .ok x.2 := by decide +kernel
set_option maxRecDepth 100000 in
theorem td_52 : ∀ x ∈ tc_52, decode prog_4_method_14_code x.1 = .ok x.2 := by decide +kernel
set_option maxRecDepth 100000 in
theorem td_53 : ∀ x ∈ tc_53, decode prog_4_method_15_code x.1 = .ok x.2 := by decide +kernel
set_option maxRecDepth 100000 in
theorem td_54 : ∀ x ∈ tc_54, decode prog_4_method_16_code x.1 = .ok x.2 := by decide +kernel
set_option maxRecDepth 100000 in
theorem td_55 : ∀ x ∈ tc_55, decode prog_4_method_17_code x.1 = .ok x.2 := by decide +kernel
set_option maxRecDepth 100000 in
theorem td_56 : ∀ x ∈ tc_56, decode prog_4_method_18_code x.1 = .ok x.2 := by decide +kernel
set_option maxRecDepth 100000 in
theorem td_57 : ∀ x ∈ tc_57, decode prog_4_method_19_code x.1 = .ok x.2 := by decide +kernel
set_option maxRecDepth 100000 in
theorem td_58 : ∀ x ∈ tc_58, decode prog_4_method_20_code x.1 = .ok x.2 := by decide +kernel
set_option maxRecDepth 100000 in
theorem td_59 : ∀ x ∈ tc_59, decode prog_4_method_21_code x.1 = .ok x.2 := by decide +kernel
set_option maxRecDepth 100000 in
theorem td_60 : ∀ x ∈ tc_60, decode prog_4_method_22_code x.1 = .ok x.2 := by decide +kernel
set_option maxRecDepth 100000 in
theorem td_61 : ∀ x ∈ tc_61, decode prog_5_method_2_code x.1 = .ok x.2 := by decide +kernel
set_option maxRecDepth 100000 in
theorem td_62 : ∀ x ∈ tc_62, decode prog_5_method_3_code x.1 = .ok x.2 := by decide +kernel
set_option maxRecDepth 100000 in
theorem td_63 : ∀ x ∈ tc_63, decode prog_5_method_4_code x.1 = .ok x.2 := by decide +kernel
set_option maxRecDepth 100000 in
theorem td_64 : ∀ x ∈ tc_64, decode prog_5_method_5_code x.1 = .ok x.2 := by decide +kernel
set_option maxRecDepth 100000 in
theorem td_65 : ∀ x ∈ tc_65, decode prog_5_method_6_code x.1 = .ok x.2 := by decide +kernel
set_option maxRecDepth 100000 in
theorem td_66 : ∀ x ∈ tc_66, decode prog_5_method_7_code x.1 = .ok x.2 := by decide +kernel
set_option maxRecDepth 100000 in
theorem td_67 : ∀ x ∈ tc_67, decode prog_5_method_8_code x.1 = .ok x.2 := by decide +kernel
set_option maxRecDepth 100000 in
theorem td_68 : ∀ x ∈ tc_68, decode prog_5_method_9_code x.1 = .ok x.2 := by decide +kernel
set_option maxRecDepth 100000 in
theorem td_69 : ∀ x ∈ tc_69, decode prog_6_method_2_code x.1 = .ok x.2 := by decide +kernel
set_option maxRecDepth 100000 in
theorem td_70 : ∀ x ∈ tc_70, decode prog_6_method_3_code x.1 = .ok x.2 := by decide +kernel
set_option maxRecDepth 100000 in
theorem td_71 : ∀ x ∈ tc_71, decode prog_6_method_4_code x.1 = .ok x.2 := by decide +kernel
set_option maxRecDepth 100000 in
theorem td_72 : ∀ x ∈ tc_72, decode prog_6_method_5_code x.1 = .ok x.2 := by decide +kernel
set_option maxRecDepth 100000 in
theorem td_73 : ∀ x ∈ tc_73, decode prog_6_method_6_code x.1 = .ok x.2 := by decide +kernel
set_option maxRecDepth 100000 in
theorem td_74 : ∀ x ∈ tc_74, decode prog_6_method_7_code x.1 = .ok x.2 := by decide +kernel
set_option maxRecDepth 100000 in
theorem td_75 : ∀ x ∈ tc_75, decode prog_6_method_8_code x.1 = .ok x.2 := by decide +kernel
set_option maxRecDepth 100000 in
theorem td_76 : ∀ x ∈ tc_76, decode prog_6_method_9_code x.1 = .ok x.2 := by decide +kernel
set_option maxRecDepth 100000 in
theorem td_77 : ∀ x ∈ tc_77, decode prog_6_method_10_code x.1 = .ok x.2 := by decide +kernel
set_option maxRecDepth 100000 in
theorem td_78 : ∀ x ∈ tc_78, decode prog_6_method_11_code x.1 = .ok x.2 := by decide +kernel
set_option maxRecDepth 100000 in
theorem td_79 : ∀ x ∈ tc_79, decode prog_6_method_12_code x.1 = .ok x.2 := by decide +kernel
set_option maxRecDepth 100000 in
theorem td_80 : ∀ x ∈ tc_80, decode prog_7_method_2_code x.1 = .ok x.2 := by decide +kernel
set_option maxRecDepth 100000 in
theorem td_81 : ∀ x ∈ tc_81, decode prog_7_method_3_code x.1 = .ok x.2 := by decide +kernel
set_option maxRecDepth 100000 in
theorem td_82 : ∀ x ∈ tc_82, decode prog_7_method_4_code x.1 = .ok x.2 := by decide +kernel
set_option maxRecDepth 100000 in
theorem td_83 : ∀ x ∈ tc_83, decode prog_7_method_5_code x.1 = .ok x.2 := by decide +kernel
set_option maxRecDepth 100000 in
theorem td_84 : ∀ x ∈ tc_84, decode prog_7_method_6_code x.1 = .ok x.2 := by decide +kernel
set_option maxRecDepth 100000 in
theorem td_85 : ∀ x ∈ tc_85, decode prog_7_method_7_code x.1 = .ok x.2 := by decide +kernel
set_option maxRecDepth 100000 in
theorem td_86 : ∀ x ∈ tc_86, decode prog_7_method_8_code x.1 = .ok x.2 := by decide +kernel
set_option maxRecDepth 100000 in
theorem td_87 : ∀ x ∈ tc_87, decode prog_7_method_9_code x.1 = .ok x.2 := by decide +kernel
set_option maxRecDepth 100000 in
theorem td_88 : ∀ x ∈ tc_88, decode prog_7_method_10_code x.1 = .ok x.2 := by decide +kernel
set_option maxRecDepth 100000 in
theorem td_89 : ∀ x ∈ tc_89, decode prog_7_method_11_code x.1 = .ok x.2 := by decide +kernel
set_option maxRecDepth 100000 in
theorem td_90 : ∀ x ∈ tc_90, decode prog_7_method_12_code x.1 = .ok x.2 := by decide +kernel
set_option maxRecDepth 100000 in
theorem td_91 : ∀ x ∈ tc_91, decode prog_7_method_13_code x.1 = .ok x.2 := by decide +kernel
set_option maxRecDepth 100000 in
theorem td_92 : ∀ x ∈ tc_92, decode prog_7_method_14_code x.1 = .ok x.2 := by decide +kernel
set_option maxRecDepth 100000 in
theorem td_93 : ∀ x ∈ tc_93, decode prog_7_method_15_code x.1 = .ok x.2 := by decide +kernel
set_option maxRecDepth 100000 in
theorem td_94 : ∀ x ∈ tc_94, decode prog_7_method_16_code x.1 = .ok x.2 := by decide +kernel
set_option maxRecDepth 100000 in
theorem td_95 : ∀ x ∈ tc_95, decode prog_7_method_17_code x.1 = .ok x.2 := by decide +kernel
end
section
set_option maxRecDepth 100000 in
theorem td_96 : ∀ x ∈ tc_96, decode prog_7_method_18_code x.1 = .ok x.2 := by decide +kernel
set_option maxRecDepth 100000 in
theorem td_97 : ∀ x ∈ tc_97, decode prog_7_method_19_code x.1 = .ok x.2 := by decide +kernel
set_option maxRecDepth 100000 in
theorem td_98 : ∀ x ∈ tc_98, decode prog_1_method_2_code x.1 = .ok x.2 := by decide +kernel
set_option maxRecDepth 100000 in
theorem td_99 : ∀ x ∈ tc_99, decode prog_1_method_3_code x.1 = .ok x.2 := by decide +kernel
set_option maxRecDepth 100000 in
theorem td_100 : ∀ x ∈ tc_100, decode prog_1_method_4_code x.1 = .ok x.2 := by decide +kernel
set_option maxRecDepth 100000 in
theorem td_101 : ∀ x ∈ tc_101, decode prog_1_method_5_code x.1 = .ok x.2 := by decide +kernel
set_option maxRecDepth 100000 in
theorem td_102 : ∀ x ∈ tc_102, decode prog_1_method_6_code x.1 = .ok x.2 := by decide +kernel
set_option maxRecDepth 100000 in
theorem td_103 : ∀ x ∈ tc_103, decode prog_1_method_7_code x.1 = .ok x.2 := by decide +kernel
set_option maxRecDepth 100000 in
theorem td_104 : ∀ x ∈ tc_104, decode prog_1_method_8_code x.1 = .ok x.2 := by decide +kernel
set_option maxRecDepth 100000 in
theorem td_105 : ∀ x ∈ tc_105, decode prog_1_method_9_code x.1 = .ok x.2 := by decide +kernel
set_option maxRecDepth 100000 in
theorem td_106 : ∀ x ∈ tc_106, decode prog_1_method_10_code x.1 = .ok x.2 := by decide +kernel
set_option maxRecDepth 100000 in
theorem td_107 : ∀ x ∈ tc_107, decode prog_1_method_11_code x.1 = .ok x.2 := by decide +kernel
set_option maxRecDepth 100000 in
theorem td_108 : ∀ x ∈ tc_108, decode prog_1_method_12_code x.1 = .ok x.2 := by decide +kernel
set_option maxRecDepth 100000 in
theorem td_109 : ∀ x ∈ tc_109, decode prog_1_method_13_code x.1 = .ok x.2 := by decide +kernel
set_option maxRecDepth 100000 in
theorem td_110 : ∀ x ∈ tc_110, decode prog_1_method_14_code x.1 = .ok x.2 := by decide +kernel
set_option maxRecDepth 100000 in
theorem td_111 : ∀ x ∈ tc_111, decode prog_1_method_15_code x.1 = .ok x.2 := by decide +kernel
set_option maxRecDepth 100000 in
theorem td_112 : ∀ x ∈ tc_112, decode prog_1_method_16_code x.1 = .ok x.2 := by decide +kernel
set_option maxRecDepth 100000 in
theorem td_113 : ∀ x ∈ tc_113, decode prog_1_method_17_code x.1 = .ok x.2 := by decide +kernel
set_option maxRecDepth 100000 in
theorem td_114 : ∀ x ∈ tc_114, decode prog_1_method_18_code x.1 = .ok x.2 := by decide +kernel
set_option maxRecDepth 100000 in
theorem td_115 : ∀ x ∈ tc_115, decode prog_1_method_19_code x.1 = .ok x.2 := by decide +kernel
set_option maxRecDepth 100000 in
theorem td_116 : ∀ x ∈ tc_116, decode prog_1_method_20_code x.1 = .ok x.2 := by decide +kernel
set_option maxRecDepth 100000 in
theorem td_117 : ∀ x ∈ tc_117, decode prog_1_method_21_code x.1 = .ok x.2 := by decide +kernel
set_option maxRecDepth 100000 in
theorem td_118 : ∀ x ∈ tc_118, decode prog_1_method_22_code x.1 = .ok x.2 := by decide +kernel
set_option maxRecDepth 100000 in
theorem td_119 : ∀ x ∈ tc_119, decode prog_1_method_23_code x.1 = .ok x.2 := by decide +kernel
set_option maxRecDepth 100000 in
theorem td_120 : ∀ x ∈ tc_120, decode prog_1_method_24_code x.1 = .ok x.2 := by decide +kernel
set_option maxRecDepth 100000 in
theorem td_121 : ∀ x ∈ tc_121, decode prog_1_method_25_code x.1 = .ok x.2 := by decide +kernel
set_option maxRecDepth 100000 in
theorem td_122 : ∀ x ∈ tc_122, decode prog_1_method_26_code x.1 = .ok x.2 := by decide +kernel
set_option maxRecDepth 100000 in
theorem td_123 : ∀ x ∈ tc_123, decode prog_1_method_27_code x.1 = .ok x.2 := by decide +kernel
set_option maxRecDepth 100000 in
theorem td_124 : ∀ x ∈ tc_124, decode prog_1_method_28_code x.1 = .ok x.2 := by decide +kernel
set_option maxRecDepth 100000 in
theorem td_125 : ∀ x ∈ tc_125, decode prog_1_method_29_code x.1 = .ok x.2 := by decide +kernel
set_option maxRecDepth 100000 in
theorem td_126 : ∀ x ∈ tc_126, decode prog_9_method_2_code x.1 = .ok x.2 := by decide +kernel
set_option maxRecDepth 100000 in
theorem td_127 : ∀ x ∈ tc_127, decode prog_9_method_3_code x.1 = .ok x.2 := by decide +kernel
set_option maxRecDepth 100000 in
theorem td_128 : ∀ x ∈ tc_128, decode prog_9_method_4_code x.1 = .ok x.2 := by decide +kernel
set_option maxRecDepth 100000 in
theorem td_129 : ∀ x ∈ tc_129, decode prog_9_method_5_code x.1 = .ok x.2 := by decide +kernel
set_option maxRecDepth 100000 in
theorem td_130 : ∀ x ∈ tc_130, decode prog_9_method_6_code x.1 = .ok x.2 := by decide +kernel
set_option maxRecDepth 100000 in
theorem td_131 : ∀ x ∈ tc_131, decode prog_9_method_7_code x.1 = .ok x.2 := by decide +kernel
set_option maxRecDepth 100000 in
theorem td_132 : ∀ x ∈ tc_132, decode prog_9_method_8_code x.1 = .ok x.2 := by decide +kernel
set_option maxRecDepth 100000 in
theorem td_133 : ∀ x ∈ tc_133, decode prog_9_method_9_code x.1 = .ok x.2 := by decide +kernel
set_option maxRecDepth 100000 in
theorem td_134 : ∀ x ∈ tc_134, decode prog_9_method_10_code x.1 = .ok x.2 := by decide +kernel
set_option maxRecDepth 100000 in
theorem td_135 : ∀ x ∈ tc_135, decode prog_9_method_11_code x.1 = .ok x.2 := by decide +kernel
set_option maxRecDepth 100000 in
theorem td_136 : ∀ x ∈ tc_136, decode prog_9_method_12_code x.1 = .ok x.2 := by decide +kernel
set_option maxRecDepth 100000 in
theorem td_137 : ∀ x ∈ tc_137, decode prog_9_method_13_code x.1 = .ok x.2 := by decide +kernel
set_option maxRecDepth 100000 in
theorem td_138 : ∀ x ∈ tc_138, decode prog_9_method_14_code x.1 = .ok x.2 := by decide +kernel
set_option maxRecDepth 100000 in
theorem td_139 : ∀ x ∈ tc_139, decode prog_9_method_15_code x.1 = .ok x.2 := by decide +kernel
set_option maxRecDepth 100000 in
theorem td_140 : ∀ x ∈ tc_140, decode prog_9_method_16_code x.1 = .ok x.2 := by decide +kernel
set_option maxRecDepth 100000 in
theorem td_141 : ∀ x ∈ tc_141, decode prog_9_method_17_code x.1 = .ok x.2 := by decide +kernel
set_option maxRecDepth 100000 in
theorem td_142 : ∀ x ∈ tc_142, decode prog_9_method_18_code x.1 = .ok x.2 := by decide +kernel
set_option maxRecDepth 100000 in
theorem td_143 : ∀ x ∈ tc_143, decode prog_9_method_19_code x.1 = .ok x.2 := by decide +kernel
end
section
set_option maxRecDepth 100000 in
theorem td_144 : ∀ x ∈ tc_144, decode prog_9_method_20_code x.1 = .ok x.2 := by decide +kernel
set_option maxRecDepth 100000 in
theorem td_145 : ∀ x ∈ tc_145, decode prog_9_method_21_code x.1 = .ok x.2 := by decide +kernel
set_option maxRecDepth 100000 in
theorem td_146 : ∀ x ∈ tc_146, decode prog_9_method_22_code x.1 = .ok x.2 := by decide +kernel
set_option maxRecDepth 100000 in
theorem td_147 : ∀ x ∈ tc_147, decode prog_9_method_23_code x.1 = .ok x.2 := by decide +kernel
set_option maxRecDepth 100000 in
theorem td_148 : ∀ x ∈ tc_148, decode prog_9_method_24_code x.1 = .ok x.2 := by decide +kernel
set_option maxRecDepth 100000 in
theorem td_149 : ∀ x ∈ tc_149, decode prog_9_method_25_code x.1 = .ok x.2 := by decide +kernel
set_option maxRecDepth 100000 in
theorem td_150 : ∀ x ∈ tc_150, decode prog_9_method_26_code x.1 = .ok x.2 := by decide +kernel
set_option maxRecDepth 100000 in
theorem td_151 : ∀ x ∈ tc_151, decode prog_9_method_27_code x.1 = .ok x.2 := by decide +kernel
set_option maxRecDepth 100000 in
theorem td_152 : ∀ x ∈ tc_152, decode prog_9_method_28_code x.1 = .ok x.2 := by decide +kernel
set_option maxRecDepth 100000 in
theorem td_153 : ∀ x ∈ tc_153, decode prog_9_method_29_code x.1 = .ok x.2 := by decide +kernel
set_option maxRecDepth 100000 in
theorem td_154 : ∀ x ∈ tc_154, decode prog_9_method_30_code x.1 = .ok x.2 := by decide +kernel
set_option maxRecDepth 100000 in
theorem td_155 : ∀ x ∈ tc_155, decode prog_9_method_31_code x.1 = .ok x.2 := by decide +kernel
set_option maxRecDepth 100000 in
theorem td_156 : ∀ x ∈ tc_156, decode prog_9_method_32_code x.1 = .ok x.2 := by decide +kernel
set_option maxRecDepth 100000 in
theorem td_157 : ∀ x ∈ tc_157, decode prog_9_method_33_code x.1 = .ok x.2 := by decide +kernel
set_option maxRecDepth 100000 in
theorem td_158 : ∀ x ∈ tc_158, decode prog_9_method_34_code x.1 = .ok x.2 := by decide +kernel
set_option maxRecDepth 100000 in
theorem td_159 : ∀ x ∈ tc_159, decode prog_9_method_35_code x.1 = .ok x.2 := by decide +kernel
set_option maxRecDepth 100000 in
theorem td_160 : ∀ x ∈ tc_160, decode prog_9_method_36_code x.1 = .ok x.2 := by decide +kernel
set_option maxRecDepth 100000 in
theorem td_161 : ∀ x ∈ tc_161, decode prog_9_method_37_code x.1 = .ok x.2 := by decide +kernel
set_option maxRecDepth 100000 in
theorem td_162 : ∀ x ∈ tc_162, decode prog_9_method_38_code x.1 = .ok x.2 := by decide +kernel
set_option maxRecDepth 100000 in
theorem td_163 : ∀ x ∈ tc_163, decode prog_9_method_39_code x.1 = .ok x.2 := by decide +kernel
set_option maxRecDepth 100000 in
theorem td_164 : ∀ x ∈ tc_164, decode prog_9_method_40_code x.1 = .ok x.2 := by decide +kernel
set_option maxRecDepth 100000 in
theorem td_165 : ∀ x ∈ tc_165, decode prog_9_method_41_code x.1 = .ok x.2 := by decide +kernel
set_option maxRecDepth 100000 in
theorem td_166 : ∀ x ∈ tc_166, decode prog_9_method_42_code x.1 = .ok x.2 := by decide +kernel
set_option maxRecDepth 100000 in
theorem td_167 : ∀ x ∈ tc_167, decode prog_9_method_43_code x.1 = .ok x.2 := by decide +kernel
set_option maxRecDepth 100000 in
theorem td_168 : ∀ x ∈ tc_168, decode prog_9_method_44_code x.1 = .ok x.2 := by decide +kernel
set_option maxRecDepth 100000 in
theorem td_169 : ∀ x ∈ tc_169, decode prog_9_method_45_code x.1 = .ok x.2 := by decide +kernel
set_option maxRecDepth 100000 in
theorem td_170 : ∀ x ∈ tc_170, decode prog_9_method_46_code x.1 = .ok x.2 := by decide +kernel
set_option maxRecDepth 100000 in
theorem td_171 : ∀ x ∈ tc_171, decode prog_9_method_47_code x.1 = .ok x.2 := by decide +kernel
set_option maxRecDepth 100000 in
theorem td_172 : ∀ x ∈ tc_172, decode prog_9_method_48_code x.1 = .ok x.2 := by decide +kernel
set_option maxRecDepth 100000 in
theorem td_173 : ∀ x ∈ tc_173, decode prog_9_method_49_code x.1 = .ok x.2 := by decide +kernel
set_option maxRecDepth 100000 in
theorem td_174 : ∀ x ∈ tc_174, decode prog_9_method_50_code x.1 = .ok x.2 := by decide +kernel
set_option maxRecDepth 100000 in
theorem td_175 : ∀ x ∈ tc_175, decode prog_9_method_51_code x.1 = .ok x.2 := by decide +kernel
set_option maxRecDepth 100000 in
theorem td_176 : ∀ x ∈ tc_176, decode prog_9_method_52_code x.1 = .ok x.2 := by decide +kernel
set_option maxRecDepth 100000 in
theorem td_177 : ∀ x ∈ tc_177, decode prog_9_method_53_code x.1 = .ok x.2 := by decide +kernel
set_option maxRecDepth 100000 in
theorem td_178 : ∀ x ∈ tc_178, decode prog_9_method_54_code x.1 = .ok x.2 := by decide +kernel
set_option maxRecDepth 100000 in
theorem td_179 : ∀ x ∈ tc_179, decode prog_9_method_55_code x.1 = .ok x.2 := by decide +kernel
set_option maxRecDepth 100000 in
theorem td_180 : ∀ x ∈ tc_180, decode prog_9_method_56_code x.1 = .ok x.2 := by decide +kernel
set_option maxRecDepth 100000 in
theorem td_181 : ∀ x ∈ tc_181, decode prog_9_method_57_code x.1 = .ok x.2 := by decide +kernel
set_option maxRecDepth 100000 in
theorem td_182 : ∀ x ∈ tc_182, decode prog_9_method_58_code x.1 = .ok x.2 := by decide +kernel
set_option maxRecDepth 100000 in
theorem td_183 : ∀ x ∈ tc_183, decode prog_9_method_59_code x.1 = .ok x.2 := by decide +kernel
set_option maxRecDepth 100000 in
theorem td_184 : ∀ x ∈ tc_184, decode prog_9_method_60_code x.1 = .ok x.2 := by decide +kernel
set_option maxRecDepth 100000 in
theorem td_185 : ∀ x ∈ tc_185, decode prog_9_method_61_code x.1 = .ok x.2 := by decide +kernel
set_option maxRecDepth 100000 in
theorem td_186 : ∀ x ∈ tc_186, decode prog_9_method_62_code x.1 = .ok x.2 := by decide +kernel
set_option maxRecDepth 100000 in
theorem td_187 : ∀ x ∈ tc_187, decode prog_9_method_63_code x.1 = .ok x.2 := by decide +kernel
set_option maxRecDepth 100000 in
theorem td_188 : ∀ x ∈ tc_188, decode prog_9_method_64_code x.1 = .ok x.2 := by decide +kernel
set_option maxRecDepth 100000 in
theorem td_189 : ∀ x ∈ tc_189, decode prog_9_method_65_code x.1 = .ok x.2 := by decide +kernel
set_option maxRecDepth 100000 in
theorem td_190 : ∀ x ∈ tc_190, decode prog_9_method_66_code x.1 = .ok x.2 := by decide +kernel
set_option maxRecDepth 100000 in
theorem td_191 : ∀ x ∈ tc_191, decode prog_12_method_101_code x.1 = .ok x.2 := by decide +kernel
set_option maxRecDepth 100000 in
theorem td_192 : ∀ x ∈ tc_192, decode prog_12_method_103_code x.1 = .ok x.2 := by decide +kernel
def tk_dc (q : tkE) : Prop := ∀ x ∈ q.2.2.2.2.2.2.2.2.2.2, decode q.2.1 x.1 = .ok x.2
set_option maxRecDepth 100000 in
theorem tk_decs : ∀ q ∈ tk_all, tk_dc q := by
  intro q hq
  have h : ∀ (L : List tkE), (∀ q ∈ L, tk_dc q) → ∀ q ∈ L, tk_dc q := fun _ h => h
  simp only [tk_all] at hq
  revert q
  exact List.forall_mem_cons.mpr ⟨td_0, List.forall_mem_cons.mpr ⟨td_1, List.forall_mem_cons.mpr ⟨td_2, List.forall_mem_cons.mpr ⟨td_3, List.forall_mem_cons.mpr ⟨td_4, List.forall_mem_cons.mpr ⟨td_5, List.forall_mem_cons.mpr ⟨td_6, List.forall_mem_cons.mpr ⟨td_7, List.forall_mem_cons.mpr ⟨td_8, List.forall_mem_cons.mpr ⟨td_9, List.forall_mem_cons.mpr ⟨td_10, List.forall_mem_cons.mpr ⟨td_11, List.forall_mem_cons.mpr ⟨td_12, List.forall_mem_cons.mpr ⟨td_13, List.forall_mem_cons.mpr ⟨td_14, List.forall_mem_cons.mpr ⟨td_15, List.forall_mem_cons.mpr ⟨td_16, List.forall_mem_cons.mpr ⟨td_17, List.forall_mem_cons.mpr ⟨td_18, List.forall_mem_cons.mpr ⟨td_19, List.forall_mem_cons.mpr ⟨td_20, List.forall_mem_cons.mpr ⟨td_21, List.forall_mem_cons.mpr ⟨td_22, List.forall_mem_cons.mpr ⟨td_23, List.forall_mem_cons.mpr ⟨td_24, List.forall_mem_cons.mpr ⟨td_25, List.forall_mem_cons.mpr ⟨td_26, List.forall_mem_cons.mpr ⟨td_27, List.forall_mem_cons.mpr ⟨td_28, List.forall_mem_cons.mpr ⟨td_29, List.forall_mem_cons.mpr ⟨td_30, List.forall_mem_cons.mpr ⟨td_31, List.forall_mem_cons.mpr ⟨td_32, List.forall_mem_cons.mpr ⟨td_33, List.forall_mem_cons.mpr ⟨td_34, List.forall_mem_cons.mpr ⟨td_35, List.forall_mem_cons.mpr ⟨td_36, List.forall_mem_cons.mpr ⟨td_37, List.forall_mem_cons.mpr ⟨td_38, List.forall_mem_cons.mpr ⟨td_39, List.forall_mem_cons.mpr ⟨td_40, List.forall_mem_cons.mpr ⟨td_41, List.forall_mem_cons.mpr ⟨td_42, List.forall_mem_cons.mpr ⟨td_43, List.forall_mem_cons.mpr ⟨td_44, List.forall_mem_cons.mpr ⟨td_45, List.forall_mem_cons.mpr ⟨td_46, List.forall_mem_cons.mpr ⟨td_47, List.forall_mem_cons.mpr ⟨td_48, List.forall_mem_cons.mpr ⟨td_49, List.forall_mem_cons.mpr ⟨td_50, List.forall_mem_cons.mpr ⟨td_51, List.forall_mem_cons.mpr ⟨td_52, List.forall_mem_cons.mpr ⟨td_53, List.forall_mem_cons.mpr ⟨td_54, List.forall_mem_cons.mpr ⟨td_55, List.forall_mem_cons.mpr ⟨td_56, List.forall_mem_cons.mpr ⟨td_57, List.forall_mem_cons.mpr ⟨td_58, List.forall_mem_cons.mpr ⟨td_59, List.forall_mem_cons.mpr ⟨td_60, List.forall_mem_cons.mpr ⟨td_61, List.forall_mem_cons.mpr ⟨td_62, List.forall_mem_cons.mpr ⟨td_63, List.forall_mem_cons.mpr ⟨td_64, List.forall_mem_cons.mpr ⟨td_65, List.forall_mem_cons.mpr ⟨td_66, List.forall_mem_cons.mpr ⟨td_67, List.forall_mem_cons.mpr ⟨td_68, List.forall_mem_cons.mpr ⟨td_69, List.forall_mem_cons.mpr ⟨td_70, List.forall_mem_cons.mpr ⟨td_71, List.forall_mem_cons.mpr ⟨td_72, List.forall_mem_cons.mpr ⟨td_73, List.forall_mem_cons.mpr ⟨td_74, List.forall_mem_cons.mpr ⟨td_75, List.forall_mem_cons.mpr ⟨td_76, List.forall_mem_cons.mpr ⟨td_77, List.forall_mem_cons.mpr ⟨td_78, List.forall_mem_cons.mpr ⟨td_79, List.forall_mem_cons.mpr ⟨td_80, List.forall_mem_cons.mpr ⟨td_81, List.forall_mem_cons.mpr ⟨td_82, List.forall_mem_cons.mpr ⟨td_83, List.forall_mem_cons.mpr ⟨td_84, List.forall_mem_cons.mpr ⟨td_85, List.forall_mem_cons.mpr ⟨td_86, List.forall_mem_cons.mpr ⟨td_87, List.forall_mem_cons.mpr ⟨td_88, List.forall_mem_cons.mpr ⟨td_89, List.forall_mem_cons.mpr ⟨td_90, List.forall_mem_cons.mpr ⟨td_91, List.forall_mem_cons.mpr ⟨td_92, List.forall_mem_cons.mpr ⟨td_93, List.forall_mem_cons.mpr ⟨td_94, List.forall_mem_cons.mpr ⟨td_95, List.forall_mem_cons.mpr ⟨td_96, List.forall_mem_cons.mpr ⟨td_97, List.forall_mem_cons.mpr ⟨td_98, List.forall_mem_cons.mpr ⟨td_99, List.forall_mem_cons.mpr ⟨td_100, List.forall_mem_cons.mpr ⟨td_101, List.forall_mem_cons.mpr ⟨td_102, List.forall_mem_cons.mpr ⟨td_103, List.forall_mem_cons.mpr ⟨td_104, List.forall_mem_cons.mpr ⟨td_105, List.forall_mem_cons.mpr ⟨td_106, List.forall_mem_cons.mpr ⟨td_107, List.forall_mem_cons.mpr ⟨td_108, List.forall_mem_cons.mpr ⟨td_109, List.forall_mem_cons.mpr ⟨td_110, List.forall_mem_cons.mpr ⟨td_111, List.forall_mem_cons.mpr ⟨td_112, List.forall_mem_cons.mpr ⟨td_113, List.forall_mem_cons.mpr ⟨td_114, List.forall_mem_cons.mpr ⟨td_115, List.forall_mem_cons.mpr ⟨td_116, List.forall_mem_cons.mpr ⟨td_117, List.forall_mem_cons.mpr ⟨td_118, List.forall_mem_cons.mpr ⟨td_119, List.forall_mem_cons.mpr ⟨td_120, List.forall_mem_cons.mpr ⟨td_121, List.forall_mem_cons.mpr ⟨td_122, List.forall_mem_cons.mpr ⟨td_123, List.forall_mem_cons.mpr ⟨td_124, List.forall_mem_cons.mpr ⟨td_125, List.forall_mem_cons.mpr ⟨td_126, List.forall_mem_cons.mpr ⟨td_127, List.forall_mem_cons.mpr ⟨td_128, List.forall_mem_cons.mpr ⟨td_129, List.forall_mem_cons.mpr ⟨td_130, List.forall_mem_cons.mpr ⟨td_131, List.forall_mem_cons.mpr ⟨td_132, List.forall_mem_cons.mpr ⟨td_133, List.forall_mem_cons.mpr ⟨td_134, List.forall_mem_cons.mpr ⟨td_135, List.forall_mem_cons.mpr ⟨td_136, List.forall_mem_cons.mpr ⟨td_137, List.forall_mem_cons.mpr ⟨td_138, List.forall_mem_cons.mpr ⟨td_139, List.forall_mem_cons.mpr ⟨td_140, List.forall_mem_cons.mpr ⟨td_141, List.forall_mem_cons.mpr ⟨td_142, List.forall_mem_cons.mpr ⟨td_143, List.forall_mem_cons.mpr ⟨td_144, List.forall_mem_cons.mpr ⟨td_145, List.forall_mem_cons.mpr ⟨td_146, List.forall_mem_cons.mpr ⟨td_147, List.forall_mem_cons.mpr ⟨td_148, List.forall_mem_cons.mpr ⟨td_149, List.forall_mem_cons.mpr ⟨td_150, List.forall_mem_cons.mpr ⟨td_151, List.forall_mem_cons.mpr ⟨td_152, List.forall_mem_cons.mpr ⟨td_153, List.forall_mem_cons.mpr ⟨td_154, List.forall_mem_cons.mpr ⟨td_155, List.forall_mem_cons.mpr ⟨td_156, List.forall_mem_cons.mpr ⟨td_157, List.forall_mem_cons.mpr ⟨td_158, List.forall_mem_cons.mpr ⟨td_159, List.forall_mem_cons.mpr ⟨td_160, List.forall_mem_cons.mpr ⟨td_161, List.forall_mem_cons.mpr ⟨td_162, List.forall_mem_cons.mpr ⟨td_163, List.forall_mem_cons.mpr ⟨td_164, List.forall_mem_cons.mpr ⟨td_165, List.forall_mem_cons.mpr ⟨td_166, List.forall_mem_cons.mpr ⟨td_167, List.forall_mem_cons.mpr ⟨td_168, List.forall_mem_cons.mpr ⟨td_169, List.forall_mem_cons.mpr ⟨td_170, List.forall_mem_cons.mpr ⟨td_171, List.forall_mem_cons.mpr ⟨td_172, List.forall_mem_cons.mpr ⟨td_173, List.forall_mem_cons.mpr ⟨td_174, List.forall_mem_cons.mpr ⟨td_175, List.forall_mem_cons.mpr ⟨td_176, List.forall_mem_cons.mpr ⟨td_177, List.forall_mem_cons.mpr ⟨td_178, List.forall_mem_cons.mpr ⟨td_179, List.forall_mem_cons.mpr ⟨td_180, List.forall_mem_cons.mpr ⟨td_181, List.forall_mem_cons.mpr ⟨td_182, List.forall_mem_cons.mpr ⟨td_183, List.forall_mem_cons.mpr ⟨td_184, List.forall_mem_cons.mpr ⟨td_185, List.forall_mem_cons.mpr ⟨td_186, List.forall_mem_cons.mpr ⟨td_187, List.forall_mem_cons.mpr ⟨td_188, List.forall_mem_cons.mpr ⟨td_189, List.forall_mem_cons.mpr ⟨td_190, List.forall_mem_cons.mpr ⟨td_191, List.forall_mem_cons.mpr ⟨td_192, fun _ h => absurd h List.not_mem_nil⟩⟩⟩⟩⟩⟩⟩⟩⟩⟩⟩⟩⟩⟩⟩⟩⟩⟩⟩⟩⟩⟩⟩⟩⟩⟩⟩⟩⟩⟩⟩⟩⟩⟩⟩⟩⟩⟩⟩⟩⟩⟩⟩⟩⟩⟩⟩⟩⟩⟩⟩⟩⟩⟩⟩⟩⟩⟩⟩⟩⟩⟩⟩⟩⟩⟩⟩⟩⟩⟩⟩⟩⟩⟩⟩⟩⟩⟩⟩⟩⟩⟩⟩⟩⟩⟩⟩⟩⟩⟩⟩⟩⟩⟩⟩⟩⟩⟩⟩⟩⟩⟩⟩⟩⟩⟩⟩⟩⟩⟩⟩⟩⟩⟩⟩⟩⟩⟩⟩⟩⟩⟩⟩⟩⟩⟩⟩⟩⟩⟩⟩⟩⟩⟩⟩⟩⟩⟩⟩⟩⟩⟩⟩⟩⟩⟩⟩⟩⟩⟩⟩⟩⟩⟩⟩⟩⟩⟩⟩⟩⟩⟩⟩⟩⟩⟩⟩⟩⟩⟩⟩⟩⟩⟩⟩⟩⟩⟩⟩⟩⟩⟩⟩⟩⟩⟩⟩⟩⟩⟩⟩⟩⟩
end
section
/-! A machine over pictures: the system's cells as three functions, its code as the data says; tkDn M c Q: from the configuration c of the method M its return is reached, with Q of the answer and the world. -/
abbrev tkV : Type := Int32 ⊕ (Int64 ⊕ (Nat × Nat × Nat))
abbrev tkI : Type := Nat → Nat → Nat → Nat → Int32
abbrev tkJ : Type := Nat → Nat → Nat → Nat → Int64
abbrev tkW : Type := tkI × tkJ × (Nat → Nat)
abbrev tkL : Type := List (Option tkV)
abbrev tkC : Type := Nat × tkL × List tkV × tkW
abbrev tkQ : Type := Option tkV → tkW → Prop
def tk_so {α : Type} (I : Nat → Nat → α) (ci b : Nat) (N : α) : Nat → Nat → α := fun a d => if a = ci ∧ d = b then N else I a d
def tk_u1 {α : Type} (f : Nat → α) (k : Nat) (x : α) : Nat → α := fun j => if j = k then x else f j
def tk_u2 {α : Type} (N : Nat → Nat → α) (s k : Nat) (x : α) : Nat → Nat → α := tk_u1 N s (tk_u1 (N s) k x)
def tk_at : tkT → Nat → Option (Jvm.ClassFile.Instr × Nat)
  | [], _ => none
  | x :: t, pc => match Nat.beq x.1 pc with
    | true => some x.2
    | false => tk_at t pc
def tk_lk2 {α : Type} : List (Nat × Nat × α) → Nat → Nat → Option α
  | [], _, _ => none
  | x :: t, a, b => match Nat.beq x.1 a && Nat.beq x.2.1 b with
    | true => some x.2.2
    | false => tk_lk2 t a b
def tk_fl (own idx : Nat) : Option Nat := tk_lk2 tk_FL own idx
def tk_ml (own idx : Nat) : Option Nat := tk_lk2 tk_ML own idx
def tk_cp (own idx : Nat) : Option Nat := tk_lk2 tk_CP own idx
def tk_clr (L : tkL) (i : Nat) : tkL := match i with
  | 0 => L
  | j + 1 => match L.getD j none with
    | some (.inr (.inl _)) => L.set j none
    | _ => L
def tk_st1 (L : tkL) (i : Nat) (v : tkV) : tkL := (tk_clr L i).set i (some v)
def tk_st2 (L : tkL) (i : Nat) (v : tkV) : tkL := ((tk_clr L i).set i (some v)).set (i + 1) none
abbrev tkO : Type := Option (Option Prop × tkC)
def tk_ld (k : Nat) (i n : Nat) (c : tkC) : tkO := match k, c.2.1.getD i none with
  | 0, some (.inl x) => some (none, (c.1 + n, c.2.1, .inl x :: c.2.2.1, c.2.2.2))
  | 1, some (.inr (.inl x)) => some (none, (c.1 + n, c.2.1, .inr (.inl x) :: c.2.2.1, c.2.2.2))
  | 2, some (.inr (.inr x)) => some (none, (c.1 + n, c.2.1, .inr (.inr x) :: c.2.2.1, c.2.2.2))
  | _, _ => none
def tk_sto (k : Nat) (i n : Nat) (c : tkC) : tkO := match k, c.2.2.1 with
  | 0, .inl x :: r => if i < c.2.1.length then some (none, (c.1 + n, tk_st1 c.2.1 i (.inl x), r, c.2.2.2)) else none
  | 1, .inr (.inl x) :: r => if i + 1 < c.2.1.length then some (none, (c.1 + n, tk_st2 c.2.1 i (.inr (.inl x)), r, c.2.2.2)) else none
  | 2, .inr (.inr x) :: r => if i < c.2.1.length then some (none, (c.1 + n, tk_st1 c.2.1 i (.inr (.inr x)), r, c.2.2.2)) else none
  | _, _ => none
def tk_inc (i : Nat) (d : Int) (n : Nat) (c : tkC) : tkO := match c.2.1.getD i none with
  | some (.inl x) => if i < c.2.1.length then some (none, (c.1 + n, tk_st1 c.2.1 i (.inl (x + Int32.ofInt d)), c.2.2.1, c.2.2.2)) else none
  | _ => none
def tk_i2 (f : Int32 → Int32 → Int32) (n : Nat) (c : tkC) : tkO := match c.2.2.1 with
  | .inl y :: .inl x :: r => some (none, (c.1 + n, c.2.1, .inl (f x y) :: r, c.2.2.2))
  | _ => none
def tk_l2 (f : Int64 → Int64 → Int64) (n : Nat) (c : tkC) : tkO := match c.2.2.1 with
  | .inr (.inl y) :: .inr (.inl x) :: r => some (none, (c.1 + n, c.2.1, .inr (.inl (f x y)) :: r, c.2.2.2))
  | _ => none
def tk_div (n : Nat) (c : tkC) : tkO := match c.2.2.1 with
  | .inl y :: .inl x :: r => some (some (¬ y = 0), (c.1 + n, c.2.1, .inl (x / y) :: r, c.2.2.2))
  | _ => none
def tk_i1 (f : Int32 → tkV) (n : Nat) (c : tkC) : tkO := match c.2.2.1 with
  | .inl x :: r => some (none, (c.1 + n, c.2.1, f x :: r, c.2.2.2))
  | _ => none
def tk_l1 (f : Int64 → tkV) (n : Nat) (c : tkC) : tkO := match c.2.2.1 with
  | .inr (.inl x) :: r => some (none, (c.1 + n, c.2.1, f x :: r, c.2.2.2))
  | _ => none
def tk_cmp (n : Nat) (c : tkC) : tkO := match c.2.2.1 with
  | .inr (.inl y) :: .inr (.inl x) :: r => some (none, (c.1 + n, c.2.1, .inl (lg_cmp x y) :: r, c.2.2.2))
  | _ => none
def tk_dup (n : Nat) (c : tkC) : tkO := match c.2.2.1 with
  | .inl x :: r => some (none, (c.1 + n, c.2.1, .inl x :: .inl x :: r, c.2.2.2))
  | .inr (.inr x) :: r => some (none, (c.1 + n, c.2.1, .inr (.inr x) :: .inr (.inr x) :: r, c.2.2.2))
  | _ => none
def tk_push (v : tkV) (n : Nat) (c : tkC) : tkO := some (none, (c.1 + n, c.2.1, v :: c.2.2.1, c.2.2.2))
def tk_kI (own idx n : Nat) (c : tkC) : tkO := match tk_lk2 tk_KI own idx with
  | some v => tk_push (.inl v) n c
  | none => none
def tk_kL (own idx n : Nat) (c : tkC) : tkO := match tk_lk2 tk_KL own idx with
  | some v => tk_push (.inr (.inl v)) n c
  | none => none
/-- a field of an object -/
def tk_rd (w : tkW) (ci b k : Nat) : tkV := match (tk_fk ci k).1 with
  | 0 => .inl (w.1 ci b 0 k)
  | 1 => .inl (w.1 ci b 0 k)
  | 2 => .inr (.inl (w.2.1 ci b 0 k))
  | 6 => .inr (.inr ((tk_fk ci k).2, 0, 0))
  | 7 => .inr (.inr (1, w.2.2 k, 0))
  | _ => .inr (.inr (ci, b, k + 1))
def tk_getf (own idx n : Nat) (c : tkC) : tkO := match c.2.2.1, tk_fl own idx with
  | .inr (.inr (ci, b, 0)) :: r, some k => match Nat.beq ci own with
    | true => some (none, (c.1 + n, c.2.1, tk_rd c.2.2.2 ci b k :: r, c.2.2.2))
    | false => none
  | _, _ => none
def tk_wI (w : tkW) (ci b s k : Nat) (x : Int32) : tkW := (tk_so w.1 ci b (tk_u2 (w.1 ci b) s k x), w.2.1, w.2.2)
def tk_wJ (w : tkW) (ci b s k : Nat) (x : Int64) : tkW := (w.1, tk_so w.2.1 ci b (tk_u2 (w.2.1 ci b) s k x), w.2.2)
def tk_wr (own b k : Nat) (v : tkV) (pc : Nat) (L : tkL) (r : List tkV) (w : tkW) : tkO := match (tk_fk own k).1, v with
  | 0, .inl x => some (none, (pc, L, r, tk_wI w own b 0 k x))
  | 1, .inl x => some (some (x = 0 ∨ x = 1), (pc, L, r, tk_wI w own b 0 k x))
  | 2, .inr (.inl x) => some (none, (pc, L, r, tk_wJ w own b 0 k x))
  | 7, .inr (.inr (1, d, 0)) => some (none, (pc, L, r, (w.1, w.2.1, tk_u1 w.2.2 k d)))
  | _, _ => none
def tk_putf (own idx n : Nat) (c : tkC) : tkO := match c.2.2.1, tk_fl own idx with
  | v :: .inr (.inr (ci, b, 0)) :: r, some k => match Nat.beq ci own && !(tk_T own k).2.2.2 with
    | true => tk_wr own b k v (c.1 + n) c.2.1 r c.2.2.2
    | false => none
  | _, _ => none
def tk_ak (ci s : Nat) : Nat × Nat := match s with
  | 0 => (8, 0)
  | k + 1 => tk_fk ci k
def tk_ald (kd : Nat) (n : Nat) (c : tkC) : tkO := match c.2.2.1 with
  | .inl j :: .inr (.inr (ci, b, s)) :: r => match Nat.beq (tk_ak ci s).1 kd with
    | true => some (some (vp_in j (tk_ak ci s).2), (c.1 + n, c.2.1, (match kd with | 4 => .inr (.inl (c.2.2.2.2.1 ci b s j.toNatClampNeg)) | _ => .inl (c.2.2.2.1 ci b s j.toNatClampNeg)) :: r, c.2.2.2))
    | false => none
  | _ => none
def tk_ast (kd : Nat) (n : Nat) (c : tkC) : tkO := match c.2.2.1 with
  | .inl x :: .inl j :: .inr (.inr (ci, b, s)) :: r => match Nat.beq (tk_ak ci s).1 kd with
    | true => match kd with
      | 3 => some (some (vp_in j (tk_ak ci s).2), (c.1 + n, c.2.1, r, tk_wI c.2.2.2 ci b s j.toNatClampNeg x))
      | 5 => some (some (vp_in j (tk_ak ci s).2), (c.1 + n, c.2.1, r, tk_wI c.2.2.2 ci b s j.toNatClampNeg (vp_nar .byte x)))
      | _ => none
    | false => none
  | .inr (.inl x) :: .inl j :: .inr (.inr (ci, b, s)) :: r => match Nat.beq (tk_ak ci s).1 kd with
    | true => match kd with
      | 4 => some (some (vp_in j (tk_ak ci s).2), (c.1 + n, c.2.1, r, tk_wJ c.2.2.2 ci b s j.toNatClampNeg x))
      | _ => none
    | false => none
  | _ => none
def tk_alen (n : Nat) (c : tkC) : tkO := match c.2.2.1 with
  | .inr (.inr (ci, b, s)) :: r => match Nat.ble 3 (tk_ak ci s).1 && Nat.ble (tk_ak ci s).1 5 with
    | true => some (none, (c.1 + n, c.2.1, .inl (Int32.ofNat (tk_ak ci s).2) :: r, c.2.2.2))
    | false => none
  | _ => none
def tk_copy (n : Nat) (c : tkC) : tkO := match c.2.2.1 with
  | .inl k :: .inl dp :: .inr (.inr (c1, b1, s1)) :: .inl sp :: .inr (.inr (c0, b0, s0)) :: [] => match Nat.beq (tk_ak c0 s0).1 4 && Nat.beq (tk_ak c1 s1).1 4 with
    | true => some (some (¬ sp < 0 ∧ ¬ dp < 0 ∧ ¬ k < 0 ∧ sp.toNatClampNeg + k.toNatClampNeg ≤ (tk_ak c0 s0).2 ∧ dp.toNatClampNeg + k.toNatClampNeg ≤ (tk_ak c1 s1).2), (c.1 + n, c.2.1, [], (c.2.2.2.1, tk_so c.2.2.2.2.1 c1 b1 (tk_u1 (c.2.2.2.2.1 c1 b1) s1 (va_cpy (c.2.2.2.2.1 c0 b0 s0) (c.2.2.2.2.1 c1 b1 s1) sp.toNatClampNeg dp.toNatClampNeg k.toNatClampNeg)), c.2.2.2.2.2)))
    | false => none
  | _ => none
def tk_cat (v : tkV) : Nat := match v with
  | .inr (.inl _) => 2
  | _ => 1
def tk_m8 (o : tkO) (c : tkC) : tkO := match Nat.ble (((c.2.2.1.drop 2).map tk_cat).sum) 8 with
  | true => o
  | false => none
def tk_jmp (pc : Nat) (off : Int) : Option Nat := match (pc : Int) + off with
  | .ofNat t => some t
  | .negSucc _ => none
def tk_go (off : Int) (c : tkC) : tkO := match tk_jmp c.1 off with
  | some t => some (none, (t, c.2.1, c.2.2.1, c.2.2.2))
  | none => none
def tk_swo (dflt lo hi : Int) (offs : Array Int) (x : Int32) : Int := if x.toInt < lo ∨ hi < x.toInt then dflt else offs.getD (x.toInt - lo).toNat 0
def tk_sw (dflt lo hi : Int) (offs : Array Int) (c : tkC) : tkO := match c.2.2.1 with
  | .inl x :: r => some (some ((hi - lo + 1).toNat = offs.size ∧ lo ≤ hi ∧ 0 ≤ (c.1 : Int) + tk_swo dflt lo hi offs x), (((c.1 : Int) + tk_swo dflt lo hi offs x).toNat, c.2.1, r, c.2.2.2))
  | _ => none
def tk_ins (own : Nat) (i : Jvm.ClassFile.Instr) (n : Nat) (c : tkC) : tkO := match i with
  | .iconst v => tk_push (.inl (Int32.ofInt v)) n c
  | .bipush v => tk_push (.inl (Int8.ofInt v).toInt32) n c
  | .sipush v => tk_push (.inl (Int16.ofInt v).toInt32) n c
  | .lconst v => tk_push (.inr (.inl (Int64.ofNat (v : Nat)))) n c
  | .ldc idx => tk_kI own idx n c
  | .ldc_w idx => tk_kI own idx n c
  | .ldc2_w idx => tk_kL own idx n c
  | .iload j => tk_ld 0 j n c
  | .iload_n j => tk_ld 0 j n c
  | .lload j => tk_ld 1 j n c
  | .lload_n j => tk_ld 1 j n c
  | .aload j => tk_ld 2 j n c
  | .aload_n j => tk_ld 2 j n c
  | .istore j => tk_sto 0 j n c
  | .istore_n j => tk_sto 0 j n c
  | .lstore j => tk_sto 1 j n c
  | .lstore_n j => tk_sto 1 j n c
  | .astore j => tk_sto 2 j n c
  | .astore_n j => tk_sto 2 j n c
  | .iinc j d => tk_inc j d n c
  | .iadd => tk_i2 (fun x y => x + y) n c
  | .isub => tk_i2 (fun x y => x - y) n c
  | .imul => tk_i2 (fun x y => x * y) n c
  | .iand => tk_i2 (fun x y => x &&& y) n c
  | .ior => tk_i2 (fun x y => x ||| y) n c
  | .ixor => tk_i2 (fun x y => x ^^^ y) n c
  | .ishl => tk_i2 (fun x y => x <<< (y &&& 31)) n c
  | .ishr => tk_i2 (fun x y => x >>> (y &&& 31)) n c
  | .idiv => tk_div n c
  | .ineg => tk_i1 (fun x => .inl (-x)) n c
  | .i2l => tk_i1 (fun x => .inr (.inl x.toInt64)) n c
  | .i2b => tk_i1 (fun x => .inl x.toInt8.toInt32) n c
  | .l2i => tk_l1 (fun x => .inl x.toInt32) n c
  | .lneg => tk_l1 (fun x => .inr (.inl (-x))) n c
  | .ladd => tk_l2 (fun x y => x + y) n c
  | .lsub => tk_l2 (fun x y => x - y) n c
  | .lcmp => tk_cmp n c
  | .dup => tk_dup n c
  | .getfield idx => tk_getf own idx n c
  | .putfield idx => tk_putf own idx n c
  | .iaload => tk_ald 3 n c
  | .laload => tk_ald 4 n c
  | .baload => tk_ald 5 n c
  | .iastore => tk_ast 3 n c
  | .lastore => tk_ast 4 n c
  | .bastore => tk_ast 5 n c
  | .arraylength => tk_alen n c
  | .goto off => tk_go off c
  | .tableswitch dflt lo hi offs => tk_sw dflt lo hi offs c
  | .invokestatic idx => match tk_cp own idx with
    | some 1 => tk_copy n c
    | some 2 => tk_m8 (tk_l2 (fun x y => if y < x then x else y) n c) c
    | some 3 => tk_m8 (tk_l2 (fun x y => if y < x then y else x) n c) c
    | some 4 => tk_m8 (tk_i2 (fun x y => if y < x then y else x) n c) c
    | _ => none
  | _ => none
def tk_c1 (cd : Jvm.ClassFile.Cond) (x : Int32) : Prop × Prop := match cd with
  | .eq => (x = 0, ¬ x = 0)
  | .ne => (¬ x = 0, x = 0)
  | .lt => (x < 0, ¬ x < 0)
  | .ge => (0 ≤ x, ¬ 0 ≤ x)
  | .gt => (0 < x, ¬ 0 < x)
  | .le => (x ≤ 0, ¬ x ≤ 0)
def tk_c2 (cd : Jvm.ClassFile.Cond) (x y : Int32) : Prop × Prop := match cd with
  | .eq => (x = y, ¬ x = y)
  | .ne => (¬ x = y, x = y)
  | .lt => (x < y, ¬ x < y)
  | .ge => (y ≤ x, ¬ y ≤ x)
  | .gt => (y < x, ¬ y < x)
  | .le => (x ≤ y, ¬ x ≤ y)
def tk_br (i : Jvm.ClassFile.Instr) (n : Nat) (c : tkC) : Option ((Prop × Prop) × tkC × tkC) := match i with
  | .ifCond cd off => match c.2.2.1, tk_jmp c.1 off with
    | .inl x :: r, some t => some (tk_c1 cd x, (t, c.2.1, r, c.2.2.2), (c.1 + n, c.2.1, r, c.2.2.2))
    | _, _ => none
  | .if_icmp cd off => match c.2.2.1, tk_jmp c.1 off with
    | .inl y :: .inl x :: r, some t => some (tk_c2 cd x y, (t, c.2.1, r, c.2.2.2), (c.1 + n, c.2.1, r, c.2.2.2))
    | _, _ => none
  | _ => none
def tk_ret (rk : Nat) (i : Jvm.ClassFile.Instr) (st : List tkV) : Option (Option Prop × Option tkV) := match i with
  | .ireturn => match st, rk with
    | [.inl x], 0 => some (none, some (.inl x))
    | [.inl x], 1 => some (some (x = 0 ∨ x = 1), some (.inl x))
    | _, _ => none
  | .lreturn => match st, rk with
    | [.inr (.inl x)], 2 => some (none, some (.inr (.inl x)))
    | _, _ => none
  | .return_ => match st, rk with
    | [], 3 => some (none, none)
    | _, _ => none
  | _ => none
/-- locals at a method's entry -/
def tk_en : List tkV → tkL
  | [] => []
  | .inl x :: r => some (.inl x) :: tk_en r
  | .inr (.inl x) :: r => some (.inr (.inl x)) :: none :: tk_en r
  | .inr (.inr x) :: r => some (.inr (.inr x)) :: tk_en r
def tk_ent (as : List tkV) (ml : Nat) : tkL := tk_en as ++ List.replicate (ml - (tk_en as).length) none
def tk_rm (M : tkM) (e : tkE) : Bool := Nat.ble (e.2.2.2.2.2.2.2.2.1 + 1) M.2.2.1 && Nat.ble (8 + (e.2.2.1 + 11) + e.2.2.2.2.2.2.2.2.2.1) M.2.2.2.1
/-- a call: the callee, its arguments, what stays on the stack -/
def tk_call (M : tkM) (i : Jvm.ClassFile.Instr) (st : List tkV) : Option (tkE × List tkV × List tkV) := match i with
  | .invokestatic idx => match tk_ml M.1 idx with
    | some k => match tk_all[k]? with
      | some e => match e.2.2.2.2.1 && tk_rm M e && Nat.ble e.2.2.2.2.2.1 st.length && Nat.ble (((st.drop e.2.2.2.2.2.1).map tk_cat).sum) 8 && Nat.ble (tk_en (st.take e.2.2.2.2.2.1)).length e.2.2.1 with
        | true => some (e, (st.take e.2.2.2.2.2.1).reverse, st.drop e.2.2.2.2.2.1)
        | false => none
      | none => none
    | none => none
  | .invokevirtual idx => match tk_ml M.1 idx with
    | some k => match tk_all[k]? with
      | some e => match !e.2.2.2.2.1 && tk_rm M e && Nat.ble e.2.2.2.2.2.1 st.length && Nat.ble (((st.drop (e.2.2.2.2.2.1 + 1)).map tk_cat).sum) 8 && Nat.ble (tk_en (st.take (e.2.2.2.2.2.1 + 1))).length e.2.2.1 with
        | true => match st.drop e.2.2.2.2.2.1 with
          | .inr (.inr (ci, b, 0)) :: r => match Nat.beq ci e.2.2.2.2.2.2.1 && Nat.ble ci 6 with
            | true => some (e, .inr (.inr (ci, b, 0)) :: (st.take e.2.2.2.2.2.1).reverse, r)
            | false => none
          | _ => none
        | false => none
      | none => none
    | none => none
  | _ => none
def tk_and (P : Option Prop) (R : Prop) : Prop := match P with
  | none => R
  | some P => P ∧ R
/-- one instruction -/
def tk_F (X : tkM → tkC → tkQ → Prop) (M : tkM) (c : tkC) (Q : tkQ) : Prop := match tk_at M.2.2.2.2 c.1 with
  | none => False
  | some (i, n) => match tk_ins M.1 i n c with
    | some (P, d) => tk_and P (X M d Q)
    | none => match tk_br i n c with
      | some (P, c1, c2) => (P.1 → X M c1 Q) ∧ (P.2 → X M c2 Q)
      | none => match tk_ret M.2.1 i c.2.2.1 with
        | some (P, r) => tk_and P (Q r c.2.2.2)
        | none => match tk_call M i c.2.2.1 with
          | some (e, as, rest) => X e.2.2.2.2.2.2 (0, tk_ent as e.2.2.1, [], c.2.2.2) (fun r w => X M (c.1 + 3, c.2.1, r.toList ++ rest, w) Q)
          | none => False
def tk_mono (X : tkM → tkC → tkQ → Prop) : Prop := ∀ M c (Q Q' : tkQ), (∀ r w, Q r w → Q' r w) → X M c Q → X M c Q'
def tkDn (M : tkM) (c : tkC) (Q : tkQ) : Prop := ∀ X : tkM → tkC → tkQ → Prop, tk_mono X → (∀ M c Q, tk_F X M c Q → X M c Q) → X M c Q
theorem tk_and_mono {P : Option Prop} {R R' : Prop} (h : R → R') (k : tk_and P R) : tk_and P R' := by
  cases P with
  | none => exact h k
  | some P => exact ⟨k.1, h k.2⟩
theorem tk_F_mono {X Y : tkM → tkC → tkQ → Prop} (hXY : ∀ M c Q, X M c Q → Y M c Q) (hY : tk_mono Y) {M : tkM} {c : tkC} {Q : tkQ} (h : tk_F X M c Q) : tk_F Y M c Q := by
  unfold tk_F at h ⊢
  split at h
  · exact h
  · split at h
    · exact tk_and_mono (hXY _ _ _) h
    · split at h
      · exact ⟨fun p => hXY _ _ _ (h.1 p), fun p => hXY _ _ _ (h.2 p)⟩
      · split at h
        · exact h
        · split at h
          · exact hY _ _ _ _ (fun r w => hXY _ _ _) (hXY _ _ _ h)
          · exact h
theorem tkDn.fold {M : tkM} {c : tkC} {Q : tkQ} (h : tk_F tkDn M c Q) : tkDn M c Q := fun X hm hX => hX _ _ _ (tk_F_mono (fun _ _ _ k => k X hm hX) hm h)
theorem tk_F_monoQ {X : tkM → tkC → tkQ → Prop} (hX : tk_mono X) {M : tkM} {c : tkC} {Q Q' : tkQ} (hQ : ∀ r w, Q r w → Q' r w) (h : tk_F X M c Q) : tk_F X M c Q' := by
  unfold tk_F at h ⊢
  split at h
  · exact h
  · split at h
    · exact tk_and_mono (hX _ _ _ _ hQ) h
    · split at h
      · exact ⟨fun p => hX _ _ _ _ hQ (h.1 p), fun p => hX _ _ _ _ hQ (h.2 p)⟩
      · split at h
        · exact tk_and_mono (hQ _ _) h
        · split at h
          · exact hX _ _ _ _ (fun r w => hX _ _ _ _ hQ) h
          · exact h
/-- Dn is the least: Q may be widened -/
theorem tkDn.mono {M : tkM} {c : tkC} {Q Q' : tkQ} (hQ : ∀ r w, Q r w → Q' r w) (h : tkDn M c Q) : tkDn M c Q' := by
  have hm : tk_mono (fun M c Q => ∀ Q' : tkQ, (∀ r w, Q r w → Q' r w) → tkDn M c Q') := fun M c Q Q' hq k Q2 h2 => k Q2 (fun r w a => h2 r w (hq r w a))
  refine h (fun M c Q => ∀ Q' : tkQ, (∀ r w, Q r w → Q' r w) → tkDn M c Q') hm (fun M c Q k Q' hq => ?_) Q' hQ
  refine tkDn.fold ?_
  have k1 := tk_F_monoQ hm hq k
  unfold tk_F at k1 ⊢
  split at k1
  · exact k1
  · split at k1
    · exact tk_and_mono (fun z => z Q' (fun _ _ a => a)) k1
    · split at k1
      · exact ⟨fun p => k1.1 p Q' (fun _ _ a => a), fun p => k1.2 p Q' (fun _ _ a => a)⟩
      · split at k1
        · exact k1
        · split at k1
          · exact k1 _ (fun r w z => z Q' (fun _ _ a => a))
          · exact k1
/-! rows -/
/-- n instructions that neither branch nor call -/
def tk_stps : Nat → tkM → tkC → (tkC → Prop) → Prop
  | 0, _, c, K => K c
  | n + 1, M, c, K => match tk_at M.2.2.2.2 c.1 with
    | none => False
    | some (i, l) => match tk_ins M.1 i l c with
      | none => False
      | some (none, d) => tk_stps n M d K
      | some (some P, d) => P ∧ tk_stps n M d K
theorem dn_run (n : Nat) {M : tkM} {c : tkC} {Q : tkQ} (h : tk_stps n M c (fun d => tkDn M d Q)) : tkDn M c Q := by
  induction n generalizing c with
  | zero => exact h
  | succ n ih =>
    unfold tk_stps at h
    refine tkDn.fold ?_
    unfold tk_F
    split at h
    · exact h.elim
    · rename_i i l he
      try rw [he]
      try dsimp only
      split at h
      · exact h.elim
      · rename_i d hd
        try rw [hd]
        exact ih h
      · rename_i P d hd
        try rw [hd]
        exact ⟨h.1, ih h.2⟩
theorem dn_if {M : tkM} {c c1 c2 : tkC} {Q : tkQ} {i : Jvm.ClassFile.Instr} {n : Nat} {P : Prop × Prop} (ha : tk_at M.2.2.2.2 c.1 = some (i, n)) (hi : tk_ins M.1 i n c = none) (hb : tk_br i n c = some (P, c1, c2)) (h1 : P.1 → tkDn M c1 Q) (h2 : P.2 → tkDn M c2 Q) : tkDn M c Q := by
  refine tkDn.fold ?_
  unfold tk_F
  rw [ha]
  dsimp only
  rw [hi]
  dsimp only
  rw [hb]
  exact ⟨h1, h2⟩
theorem dn_ret {M : tkM} {c : tkC} {Q : tkQ} {i : Jvm.ClassFile.Instr} {n : Nat} {P : Option Prop} {r : Option tkV} (ha : tk_at M.2.2.2.2 c.1 = some (i, n)) (hi : tk_ins M.1 i n c = none) (hb : tk_br i n c = none) (hr : tk_ret M.2.1 i c.2.2.1 = some (P, r)) (h : tk_and P (Q r c.2.2.2)) : tkDn M c Q := by
  refine tkDn.fold ?_
  unfold tk_F
  rw [ha]
  dsimp only
  rw [hi]
  dsimp only
  rw [hb]
  dsimp only
  rw [hr]
  exact h
theorem dn_call {M : tkM} {c : tkC} {Q : tkQ} {i : Jvm.ClassFile.Instr} {n : Nat} {e : tkE} {as rest : List tkV} (ha : tk_at M.2.2.2.2 c.1 = some (i, n)) (hi : tk_ins M.1 i n c = none) (hb : tk_br i n c = none) (hr : tk_ret M.2.1 i c.2.2.1 = none) (hc : tk_call M i c.2.2.1 = some (e, as, rest)) (h : tkDn e.2.2.2.2.2.2 (0, tk_ent as e.2.2.1, [], c.2.2.2) (fun r w => tkDn M (c.1 + 3, c.2.1, r.toList ++ rest, w) Q)) : tkDn M c Q := by
  refine tkDn.fold ?_
  unfold tk_F
  rw [ha]
  dsimp only
  rw [hi]
  dsimp only
  rw [hb]
  dsimp only
  rw [hr]
  dsimp only
  rw [hc]
  exact h
end
section
/-! the machine over pictures tells the truth of the machine -/
abbrev tkAd : Type := Nat × Nat × Nat → Nat
def tk_ix : List (Nat × Nat × Nat) := [(0, 0, 0), (0, 0, 1), (1, 0, 0), (1, 0, 4), (1, 0, 5), (1, 0, 6), (1, 0, 7), (1, 0, 8), (1, 0, 9), (1, 1, 0), (1, 1, 4), (1, 1, 5), (1, 1, 6), (1, 1, 7), (1, 1, 8), (1, 1, 9), (2, 0, 0), (2, 0, 1), (3, 0, 0), (3, 0, 1), (3, 0, 2), (4, 0, 0), (4, 0, 1), (4, 0, 2), (4, 0, 3), (4, 0, 4), (4, 0, 5), (4, 0, 6), (5, 0, 0), (6, 0, 0), (6, 0, 4), (6, 0, 5), (6, 0, 6), (6, 0, 7), (6, 0, 8), (6, 0, 9), (6, 0, 10), (6, 0, 13), (6, 0, 20), (6, 0, 21), (6, 0, 24), (6, 0, 25), (6, 0, 26), (6, 0, 27), (6, 0, 28), (6, 0, 29), (6, 0, 33)]
def tk_vok (v : tkV) : Prop := match v with
  | .inr (.inr t) => t ∈ tk_ix
  | _ => True
def tk_wok (w : tkW) : Prop := ∀ k, k < 2 → (1, w.2.2 k, 0) ∈ tk_ix
def tk_cv (ad : tkAd) (v : tkV) : Value := match v with
  | .inl x => .int x
  | .inr (.inl x) => .long x
  | .inr (.inr t) => .ref (ad t)
def tk_as (ad : tkAd) : Nat → tkL → List (Nat × Value)
  | _, [] => []
  | i, none :: r => tk_as ad (i + 1) r
  | i, some v :: r => (i, tk_cv ad v) :: tk_as ad (i + 1) r
theorem tk_as_mem {ad : tkAd} {q : Nat × Value} : ∀ {L : tkL} {i : Nat}, q ∈ tk_as ad i L ↔ ∃ v, i ≤ q.1 ∧ L[q.1 - i]? = some (some v) ∧ q.2 = tk_cv ad v := by
  intro L
  induction L with
  | nil => intro i; simp [tk_as]
  | cons o r ih =>
    intro i
    cases o with
    | none =>
      show q ∈ tk_as ad (i + 1) r ↔ _
      rw [ih]
      constructor
      · rintro ⟨v, h1, h2, h3⟩
        refine ⟨v, by omega, ?_, h3⟩
        have e : q.1 - i = (q.1 - (i + 1)) + 1 := by omega
        rw [e, List.getElem?_cons_succ]; exact h2
      · rintro ⟨v, h1, h2, h3⟩
        have hne : i ≠ q.1 := by
          intro e
          rw [← e, Nat.sub_self, List.getElem?_cons_zero] at h2
          cases h2
        refine ⟨v, by omega, ?_, h3⟩
        have e : q.1 - i = (q.1 - (i + 1)) + 1 := by omega
        rw [e, List.getElem?_cons_succ] at h2; exact h2
    | some u =>
      show q ∈ (i, tk_cv ad u) :: tk_as ad (i + 1) r ↔ _
      rw [List.mem_cons, ih]
      constructor
      · rintro (rfl | ⟨v, h1, h2, h3⟩)
        · exact ⟨u, Nat.le_refl _, by simp, rfl⟩
        · refine ⟨v, by omega, ?_, h3⟩
          have e : q.1 - i = (q.1 - (i + 1)) + 1 := by omega
          rw [e, List.getElem?_cons_succ]; exact h2
      · rintro ⟨v, h1, h2, h3⟩
        by_cases e : q.1 = i
        · left
          rw [e, Nat.sub_self, List.getElem?_cons_zero] at h2
          cases h2
          exact Prod.ext e h3
        · right
          refine ⟨v, by omega, ?_, h3⟩
          have e : q.1 - i = (q.1 - (i + 1)) + 1 := by omega
          rw [e, List.getElem?_cons_succ] at h2; exact h2
theorem tk_getD {L : tkL} {i : Nat} {v : tkV} (h : L.getD i none = some v) : L[i]? = some (some v) := by
  rw [List.getD_eq_getElem?_getD] at h
  cases hg : L[i]? with
  | none => rw [hg] at h; cases h
  | some o => rw [hg] at h; exact congrArg some h
def tk_LR (ad : tkAd) (L : tkL) (ls : Array Slot) (nL : Nat) : Prop := L.length = nL ∧ lv_has ls nL (tk_as ad 0 L) ∧ ∀ (i : Nat) (v : tkV), L[i]? = some (some v) → tk_vok v
theorem tk_LR.at {ad : tkAd} {L : tkL} {ls : Array Slot} {nL i : Nat} {v : tkV} (h : tk_LR ad L ls nL) (hv : L.getD i none = some v) : ls[i]? = some (.val (tk_cv ad v)) :=
  h.2.1.2.2 (i, tk_cv ad v) (tk_as_mem.mpr ⟨v, Nat.zero_le _, tk_getD hv, rfl⟩)
theorem tk_clr_len (L : tkL) (i : Nat) : (tk_clr L i).length = L.length := by
  cases i with
  | zero => rfl
  | succ j =>
    unfold tk_clr
    dsimp only
    split
    · rw [List.length_set]
    · rfl
theorem tk_clr_get {ad : tkAd} {L : tkL} {i j : Nat} {v : tkV} (h : (tk_clr L i)[j]? = some (some v)) : L[j]? = some (some v) ∧ ¬ (j + 1 = i ∧ (tk_cv ad v).category = 2) := by
  cases i with
  | zero => exact ⟨h, fun q => by omega⟩
  | succ k =>
    unfold tk_clr at h
    dsimp only at h
    split at h
    · rename_i x hx
      by_cases e : k = j
      · subst e
        rw [List.getElem?_set] at h
        simp at h
      · rw [List.getElem?_set_ne e] at h
        exact ⟨h, fun q => e (by omega)⟩
    · rename_i hx
      refine ⟨h, fun q => ?_⟩
      obtain ⟨q1, q2⟩ := q
      have e : j = k := by omega
      subst e
      match v, h, q2 with
      | .inr (.inl x), h, _ => exact hx x (by rw [List.getD_eq_getElem?_getD, h]; rfl)
      | .inl x, _, q2 => cases q2
      | .inr (.inr x), _, q2 => cases q2
theorem tk_LR.st1 {ad : tkAd} {L : tkL} {ls ls' : Array Slot} {nL i : Nat} {v : tkV} (h : tk_LR ad L ls nL) (hv : tk_vok v) (hi : i < L.length) (hh : lv_has ls' nL ((i, tk_cv ad v) :: (tk_as ad 0 L).filter (fun q => !(q.1 == i) && !(q.1 + 1 == i && q.2.category == 2)))) : tk_LR ad (tk_st1 L i v) ls' nL := by
  refine ⟨by unfold tk_st1; rw [List.length_set, tk_clr_len]; exact h.1, ⟨hh.1, hh.2.1, fun q hq => ?_⟩, fun j u hu => ?_⟩
  · obtain ⟨u, -, hu, h3⟩ := tk_as_mem.mp hq
    refine hh.2.2 q ?_
    rw [Nat.sub_zero] at hu
    by_cases e : i = q.1
    · unfold tk_st1 at hu
      rw [← e, List.getElem?_set_self (by rw [tk_clr_len]; exact hi)] at hu
      cases hu
      rw [show q = (i, tk_cv ad v) from Prod.ext e.symm h3]
      exact List.mem_cons_self
    · unfold tk_st1 at hu
      rw [List.getElem?_set_ne e] at hu
      obtain ⟨g1, g2⟩ := tk_clr_get (ad := ad) hu
      refine List.mem_cons_of_mem _ (List.mem_filter.mpr ⟨tk_as_mem.mpr ⟨u, Nat.zero_le _, by rw [Nat.sub_zero]; exact g1, h3⟩, ?_⟩)
      have e1 : (q.1 == i) = false := by simp; exact fun z => e z.symm
      have e2 : (q.1 + 1 == i && q.2.category == 2) = false := by
        rw [h3]
        simp only [Bool.and_eq_false_iff, beq_eq_false_iff_ne]
        by_cases z : q.1 + 1 = i
        · exact Or.inr (fun z2 => g2 ⟨z, z2⟩)
        · exact Or.inl z
      rw [e1, e2]; rfl
  · unfold tk_st1 at hu
    by_cases e : i = j
    · subst e
      rw [List.getElem?_set_self (by rw [tk_clr_len]; exact hi)] at hu
      cases hu
      exact hv
    · rw [List.getElem?_set_ne e] at hu
      exact h.2.2 j u (tk_clr_get (ad := ad) hu).1
theorem tk_LR.st2 {ad : tkAd} {L : tkL} {ls ls' : Array Slot} {nL i : Nat} {v : tkV} (h : tk_LR ad L ls nL) (hv : tk_vok v) (hi : i + 1 < L.length) (hh : lv_has ls' nL ((i, tk_cv ad v) :: (tk_as ad 0 L).filter (fun q => !(q.1 == i) && (!(q.1 == i + 1) && !(q.1 + 1 == i && q.2.category == 2))))) : tk_LR ad (tk_st2 L i v) ls' nL := by
  refine ⟨by unfold tk_st2; rw [List.length_set, List.length_set, tk_clr_len]; exact h.1, ⟨hh.1, hh.2.1, fun q hq => ?_⟩, fun j u hu => ?_⟩
  · obtain ⟨u, -, hu, h3⟩ := tk_as_mem.mp hq
    refine hh.2.2 q ?_
    rw [Nat.sub_zero] at hu
    unfold tk_st2 at hu
    by_cases e3 : i + 1 = q.1
    · rw [← e3, List.getElem?_set_self (by rw [List.length_set, tk_clr_len]; exact hi)] at hu
      cases hu
    · rw [List.getElem?_set_ne e3] at hu
      by_cases e : i = q.1
      · rw [← e, List.getElem?_set_self (by rw [tk_clr_len]; omega)] at hu
        cases hu
        rw [show q = (i, tk_cv ad v) from Prod.ext e.symm h3]
        exact List.mem_cons_self
      · rw [List.getElem?_set_ne e] at hu
        obtain ⟨g1, g2⟩ := tk_clr_get (ad := ad) hu
        refine List.mem_cons_of_mem _ (List.mem_filter.mpr ⟨tk_as_mem.mpr ⟨u, Nat.zero_le _, by rw [Nat.sub_zero]; exact g1, h3⟩, ?_⟩)
        have e1 : (q.1 == i) = false := by simp; exact fun z => e z.symm
        have e4 : (q.1 == i + 1) = false := by simp; exact fun z => e3 z.symm
        have e2 : (q.1 + 1 == i && q.2.category == 2) = false := by
          rw [h3]
          simp only [Bool.and_eq_false_iff, beq_eq_false_iff_ne]
          by_cases z : q.1 + 1 = i
          · exact Or.inr (fun z2 => g2 ⟨z, z2⟩)
          · exact Or.inl z
        rw [e1, e2, e4]; rfl
  · unfold tk_st2 at hu
    by_cases e3 : i + 1 = j
    · rw [← e3, List.getElem?_set_self (by rw [List.length_set, tk_clr_len]; exact hi)] at hu
      cases hu
    · rw [List.getElem?_set_ne e3] at hu
      by_cases e : i = j
      · subst e
        rw [List.getElem?_set_self (by rw [tk_clr_len]; omega)] at hu
        cases hu
        exact hv
      · rw [List.getElem?_set_ne e] at hu
        exact h.2.2 j u (tk_clr_get (ad := ad) hu).1
/-! the world as cells -/
def tk_cell (ad : tkAd) (cA : Nat → ClassId) (w : tkW) (t : Nat × Nat × Nat) : va_E := match t.2.2 with
  | 0 => .inr (t.1, (List.range (tk_N t.1)).map fun k => tk_cv ad (tk_rd w t.1 t.2.1 k))
  | s + 1 => match (tk_fk t.1 s).1 with
    | 4 => .inl (cA 1, ((tk_fk t.1 s).2, .inr (.inl (w.2.1 t.1 t.2.1 (s + 1)))))
    | 5 => .inl (cA 2, ((tk_fk t.1 s).2, .inl (w.1 t.1 t.2.1 (s + 1))))
    | _ => .inl (cA 0, ((tk_fk t.1 s).2, .inl (w.1 t.1 t.2.1 (s + 1))))
def tk_tyl (cA : Nat → ClassId) : List (ClassId × FieldType) := [(cA 0, .int), (cA 1, .long), (cA 2, .byte)]
def tk_wl (ad : tkAd) (cA : Nat → ClassId) (w : tkW) : va_W := tk_ix.map fun t => (ad t, tk_cell ad cA w t)
theorem tk_ix_inj : ∀ i, i < 47 → ∀ j, j < 47 → tk_ix[i]? = tk_ix[j]? → i = j := by decide +kernel
theorem tk_ix_len : tk_ix.length = 47 := rfl
theorem tk_ixf : ∀ t ∈ tk_ix, t.1 < 7 ∧ (t.2.2 = 0 ∨ (3 ≤ (tk_ak t.1 t.2.2).1 ∧ (tk_ak t.1 t.2.2).1 ≤ 5)) := by decide +kernel
def tk_rdok (t : Nat × Nat × Nat) (k : Nat) : Bool := match (tk_fk t.1 k).1 with
  | 0 => true
  | 1 => true
  | 2 => true
  | 6 => decide (((tk_fk t.1 k).2, 0, 0) ∈ tk_ix)
  | 7 => decide (k < 2)
  | _ => decide ((t.1, t.2.1, k + 1) ∈ tk_ix)
theorem tk_rdoks : ∀ t ∈ tk_ix, t.2.2 = 0 → ∀ k, k < tk_N t.1 → tk_rdok t k = true := by decide +kernel
theorem tk_rd_vok {w : tkW} {ci b k : Nat} (ht : (ci, b, 0) ∈ tk_ix) (hk : k < tk_N ci) (hw : tk_wok w) : tk_vok (tk_rd w ci b k) := by
  have h := tk_rdoks _ ht rfl k hk
  unfold tk_rdok at h
  unfold tk_rd
  dsimp only at h
  generalize (tk_fk ci k).1 = kd at h ⊢
  match kd, h with
  | 0, _ => trivial
  | 1, _ => trivial
  | 2, _ => trivial
  | 3, h => have h2 : (ci, b, k + 1) ∈ tk_ix := of_decide_eq_true h; exact h2
  | 4, h => have h2 : (ci, b, k + 1) ∈ tk_ix := of_decide_eq_true h; exact h2
  | 5, h => have h2 : (ci, b, k + 1) ∈ tk_ix := of_decide_eq_true h; exact h2
  | 6, h => have h2 : ((tk_fk ci k).2, 0, 0) ∈ tk_ix := of_decide_eq_true h; exact h2
  | 7, h => exact hw k (of_decide_eq_true h)
  | n + 8, h => have h2 : (ci, b, k + 1) ∈ tk_ix := of_decide_eq_true h; exact h2
theorem tk_wl_at {ad : tkAd} {cA : Nat → ClassId} {w : tkW} {t : Nat × Nat × Nat} (ht : t ∈ tk_ix) : ∃ q0, q0 < 47 ∧ tk_ix[q0]? = some t ∧ (tk_wl ad cA w)[q0]? = some (ad t, tk_cell ad cA w t) := by
  obtain ⟨q0, h⟩ := List.getElem?_of_mem ht
  refine ⟨q0, ?_, h, ?_⟩
  · have := (List.getElem?_eq_some_iff.mp h).1
    rw [tk_ix_len] at this; exact this
  · unfold tk_wl
    rw [List.getElem?_map, h]; rfl
theorem tk_wl_set {ad : tkAd} {cA : Nat → ClassId} {w w' : tkW} {t : Nat × Nat × Nat} {q0 : Nat} (hq : q0 < 47) (h0 : tk_ix[q0]? = some t) (h : ∀ t' ∈ tk_ix, t' ≠ t → tk_cell ad cA w' t' = tk_cell ad cA w t') : (tk_wl ad cA w).set q0 (ad t, tk_cell ad cA w' t) = tk_wl ad cA w' := by
  apply List.ext_getElem?
  intro j
  have hlen : (tk_wl ad cA w).length = 47 := by unfold tk_wl; rw [List.length_map]; rfl
  by_cases e : q0 = j
  · subst e
    rw [List.getElem?_set_self (by rw [hlen]; exact hq)]
    unfold tk_wl
    rw [List.getElem?_map, h0]; rfl
  · rw [List.getElem?_set_ne e]
    unfold tk_wl
    rw [List.getElem?_map, List.getElem?_map]
    cases hj : tk_ix[j]? with
    | none => rfl
    | some t' =>
      have hj47 : j < 47 := by
        have := (List.getElem?_eq_some_iff.mp hj).1
        rw [tk_ix_len] at this; exact this
      have hne : t' ≠ t := by
        intro q
        subst q
        exact e (tk_ix_inj q0 hq j hj47 (h0.trans hj.symm))
      show some (ad t', tk_cell ad cA w t') = some (ad t', tk_cell ad cA w' t')
      rw [h t' (List.mem_of_getElem? hj) hne]
theorem tk_so_same {α : Type} {I : Nat → Nat → α} {ci b : Nat} {N : α} : tk_so I ci b N ci b = N := by simp [tk_so]
theorem tk_so_ne {α : Type} {I : Nat → Nat → α} {ci b a d : Nat} {N : α} (h : ¬ (a = ci ∧ d = b)) : tk_so I ci b N a d = I a d := by simp [tk_so, h]
theorem tk_u1_same {α : Type} {f : Nat → α} {k : Nat} {x : α} : tk_u1 f k x k = x := by simp [tk_u1]
theorem tk_u1_ne {α : Type} {f : Nat → α} {k j : Nat} {x : α} (h : j ≠ k) : tk_u1 f k x j = f j := by simp [tk_u1, h]
theorem tk_u2_ne {α : Type} {N : Nat → Nat → α} {s k s' : Nat} {x : α} (h : s' ≠ s) : tk_u2 N s k x s' = N s' := by simp [tk_u2, tk_u1, h]
theorem tk_u2_at {α : Type} {N : Nat → Nat → α} {s k : Nat} {x : α} : tk_u2 N s k x s = tk_u1 (N s) k x := by simp [tk_u2, tk_u1]
/-- rows of ints changed at one object's one place: the other cells stay -/
theorem tk_cell_I {ad : tkAd} {cA : Nat → ClassId} {w : tkW} {ci b s k : Nat} {x : Int32} {t : Nat × Nat × Nat} (hne : t ≠ (ci, b, s)) : tk_cell ad cA (tk_wI w ci b s k x) t = tk_cell ad cA w t := by
  obtain ⟨a, d, r⟩ := t
  have key : (tk_wI w ci b s k x).1 a d r = w.1 a d r := by
    show tk_so w.1 ci b (tk_u2 (w.1 ci b) s k x) a d r = w.1 a d r
    by_cases e : a = ci ∧ d = b
    · obtain ⟨rfl, rfl⟩ := e
      rw [tk_so_same]
      exact congrFun (congrArg (fun f => f) (tk_u2_ne (N := w.1 a d) (s := s) (k := k) (x := x) (s' := r) (fun q => hne (by rw [q])))) |> fun h => funext h
    · rw [tk_so_ne e]
  unfold tk_cell
  dsimp only
  split
  · congr 2
    apply List.map_congr_left
    intro j hj
    unfold tk_rd
    split <;> first | rfl | (rw [congrFun key j])
  · rw [key]; rfl
theorem tk_cell_J {ad : tkAd} {cA : Nat → ClassId} {w : tkW} {ci b s : Nat} {N : Nat → Nat → Int64} {t : Nat × Nat × Nat} (hN : ∀ r, r ≠ s → N r = w.2.1 ci b r) (hne : t ≠ (ci, b, s)) : tk_cell ad cA (w.1, tk_so w.2.1 ci b N, w.2.2) t = tk_cell ad cA w t := by
  obtain ⟨a, d, r⟩ := t
  have key : tk_so w.2.1 ci b N a d r = w.2.1 a d r := by
    by_cases e : a = ci ∧ d = b
    · obtain ⟨rfl, rfl⟩ := e
      rw [tk_so_same]
      exact hN r (fun q => hne (by rw [q]))
    · rw [tk_so_ne e]
  unfold tk_cell
  dsimp only
  split
  · congr 2
    apply List.map_congr_left
    intro j hj
    unfold tk_rd
    split <;> first | rfl | (dsimp only; rw [key])
  · rw [key]
/-- a field written: the object's cell -/
theorem tk_fs_set {ad : tkAd} {w w' : tkW} {ci b k : Nat} {v : tkV} (hk : tk_rd w' ci b k = v) (ho : ∀ j, j ≠ k → tk_rd w' ci b j = tk_rd w ci b j) : ((List.range (tk_N ci)).map fun j => tk_cv ad (tk_rd w ci b j)).set k (tk_cv ad v) = (List.range (tk_N ci)).map fun j => tk_cv ad (tk_rd w' ci b j) := by
  apply List.ext_getElem?
  intro j
  rw [List.getElem?_set]
  by_cases e : k = j
  · subst e
    simp only [if_true, List.length_map, List.length_range, List.getElem?_map]
    by_cases h : k < tk_N ci
    · rw [if_pos h, List.getElem?_range h, ← hk]; rfl
    · rw [if_neg h, List.getElem?_eq_none (by rw [List.length_range]; omega)]; rfl
  · rw [if_neg e, List.getElem?_map, List.getElem?_map]
    cases hj : (List.range (tk_N ci))[j]? with
    | none => rfl
    | some i =>
      have hij : i = j := by
        obtain ⟨h1, h2⟩ := List.getElem?_eq_some_iff.mp hj
        rw [List.getElem_range] at h2
        exact h2.symm
      subst hij
      show some (tk_cv ad (tk_rd w ci b i)) = some (tk_cv ad (tk_rd w' ci b i))
      rw [ho i (fun q => e q.symm)]
theorem tk_wl_D {ad : tkAd} {cA : Nat → ClassId} {A : Nat → Prop} (w : tkW) (hi : ∀ t ∈ tk_ix, ∀ t' ∈ tk_ix, ad t = ad t' → t = t') (hA : ∀ t ∈ tk_ix, A (ad t)) : va_D A (tk_wl ad cA w) := by
  have at' : ∀ (i : Nat) (p : Nat × va_E), (tk_wl ad cA w)[i]? = some p → ∃ t, i < 47 ∧ tk_ix[i]? = some t ∧ p.1 = ad t := by
    intro i p h
    unfold tk_wl at h
    rw [List.getElem?_map] at h
    cases hi : tk_ix[i]? with
    | none => rw [hi] at h; cases h
    | some t =>
      rw [hi] at h
      cases h
      have := (List.getElem?_eq_some_iff.mp hi).1
      rw [tk_ix_len] at this
      exact ⟨t, this, rfl, rfl⟩
  refine ⟨fun i j p q h1 h2 h3 => ?_, fun k q h => ?_⟩
  · obtain ⟨t, a1, a2, a3⟩ := at' i p h1
    obtain ⟨t', b1, b2, b3⟩ := at' j q h2
    have := hi t (List.mem_of_getElem? a2) t' (List.mem_of_getElem? b2) (by rw [← a3, ← b3]; exact h3)
    subst this
    exact tk_ix_inj i a1 j b1 (a2.trans b2.symm)
  · obtain ⟨t, a1, a2, a3⟩ := at' k q h
    rw [a3]
    exact hA t (List.mem_of_getElem? a2)
end
section
/-! one instruction of the machine over pictures is one instruction of the machine -/
def tk_TB : List Cond := lw_tbl.filter goodWord
theorem tk_tb {w : Cond} (h : w ∈ lw_tbl) (hg : goodWord w = true) : w ∈ tk_TB := List.mem_filter.mpr ⟨h, hg⟩
theorem tk_flf : ∀ q ∈ tk_FL, q.1 < 7 ∧ q.2.2 < tk_N q.1 ∧ (tk_T q.1 q.2.2).1 = tk_cn q.1 := by decide +kernel
theorem tk_fkty : ∀ ci, ci < 7 → ∀ k, k < tk_N ci → ((tk_fk ci k).1 = 0 → tk_ty ci k = .int) ∧ ((tk_fk ci k).1 = 1 → tk_ty ci k = .boolean) ∧ ((tk_fk ci k).1 = 2 → tk_ty ci k = .long) ∧ ((tk_fk ci k).1 = 7 → ci = 5 ∧ k < 2 ∧ tk_ty ci k = .object (tk_cn 1)) := by decide +kernel
theorem tk_lk2_mem {α : Type} : ∀ {L : List (Nat × Nat × α)} {a b : Nat} {v : α}, tk_lk2 L a b = some v → (a, b, v) ∈ L := by
  intro L
  induction L with
  | nil => intro a b v h; cases h
  | cons x t ih =>
    intro a b v h
    unfold tk_lk2 at h
    split at h
    · rename_i hb
      cases h
      rw [Bool.and_eq_true] at hb
      have e1 := Nat.eq_of_beq_eq_true hb.1
      have e2 := Nat.eq_of_beq_eq_true hb.2
      rw [← e1, ← e2]
      exact List.mem_cons_self
    · exact List.mem_cons_of_mem _ (ih h)
theorem tk_in_ws : ∀ ci, ci < 7 → ∀ w ∈ u_ws (tk_cn ci) (tk_T ci) (tk_N ci), w ∈ tk_TB := by
  intro ci h
  match ci, h with
  | 0, _ => exact fun w h => tk_tb (tk_in_0 w h) (by revert w; decide +kernel)
  | 1, _ => exact fun w h => tk_tb (tk_in_1 w h) (by revert w; decide +kernel)
  | 2, _ => exact fun w h => tk_tb (tk_in_2 w h) (by revert w; decide +kernel)
  | 3, _ => exact fun w h => tk_tb (tk_in_3 w h) (by revert w; decide +kernel)
  | 4, _ => exact fun w h => tk_tb (tk_in_4 w h) (by revert w; decide +kernel)
  | 5, _ => exact fun w h => tk_tb (tk_in_5 w h) (by revert w; decide +kernel)
  | 6, _ => exact fun w h => tk_tb (tk_in_6 w h) (by revert w; decide +kernel)
theorem tk_at_mem {T : tkT} {pc : Nat} {i : Jvm.ClassFile.Instr} {n : Nat} (h : tk_at T pc = some (i, n)) : (pc, i, n) ∈ T := by
  induction T with
  | nil => cases h
  | cons x t ih =>
    unfold tk_at at h
    split at h
    · rename_i hb
      have e := Nat.eq_of_beq_eq_true hb
      obtain ⟨a, b⟩ := x
      cases h
      cases e
      exact List.mem_cons_self
    · exact List.mem_cons_of_mem _ (ih h)
/-- what holds all along a method's body -/
def tk_Cx (p : Program) (R : Room) (s : State) (m : MethodId) (args : Array Value) (meth : Method) (c0 : Code) (E : tkE) (D : va_G) (cA : Nat → ClassId) (ad : tkAd) (A : Nat → Prop) : Prop :=
  p.tables.exec = Jvm.exec ∧ c0.code = E.2.1 ∧ c0.maxLocals = E.2.2.1 ∧ s.vm.findClass (tk_cn E.2.2.2.2.2.2.1) = some m.cls ∧ (∀ w ∈ tk_TB, w.before args s = true) ∧ meth.sig.returnType = E.2.2.2.1 ∧ meth.locks = false ∧ E.2.2.2.2.2.2.2.2.1 ≤ R.frames ∧ E.2.2.2.2.2.2.2.2.2.1 ≤ R.locals ∧ va_K D tk_cls (tk_tyl cA) s ∧ (∀ t ∈ tk_ix, ∀ t' ∈ tk_ix, ad t = ad t' → t = t') ∧ ∀ t ∈ tk_ix, A (ad t)
def tk_Wd (p : Program) (l : Launch) (e : Env) (R : Room) (s : State) (m : MethodId) (args : Array Value) (below : List Frame) (meth : Method) (c0 : Code) (cells slots : Nat) (QQ : State → Prop) (E : tkE) (D : va_G) (cA : Nat → ClassId) (ad : tkAd) (A : Nat → Prop) (H0 : Heap) (d : tkC) : Prop :=
  ∀ (H : Heap) (locs : List Loc) (ls : Array Slot), va_P D tk_cls (tk_wl ad cA d.2.2.2) H → va_S A H0 H locs → tk_LR ad d.2.1 ls E.2.2.1 → (∀ v ∈ d.2.2.1, tk_vok v) → tk_wok d.2.2.2 → W p l e R s m args below meth c0 H locs cells slots QQ (F0 m d.1 ls (d.2.2.1.map (tk_cv ad)))
section TKS
variable {p : Program} {l : Launch} {e : Env} {R : Room} {s : State} {m : MethodId} {args : Array Value} {below : List Frame} {meth : Method} {c0 : Code} {cells slots : Nat} {QQ : State → Prop} {E : tkE} {D : va_G} {cA : Nat → ClassId} {ad : tkAd} {A : Nat → Prop} {H0 : Heap}
theorem tw_push {v : tkV} {n : Nat} {c d : tkC} {P : Option Prop} (hv : tk_vok v) (row : ∀ {H : Heap} {locs : List Loc} {ls : Array Slot} {rest : List Value}, W p l e R s m args below meth c0 H locs cells slots QQ (F0 m (c.1 + n) ls (tk_cv ad v :: rest)) → W p l e R s m args below meth c0 H locs cells slots QQ (F0 m c.1 ls rest)) (h : tk_push v n c = some (P, d)) (k : tk_Wd p l e R s m args below meth c0 cells slots QQ E D cA ad A H0 d) : tk_Wd p l e R s m args below meth c0 cells slots QQ E D cA ad A H0 c := by
  unfold tk_push at h
  cases h
  intro H locs ls hP hS hL hst hw
  exact row (k H locs ls hP hS hL (fun u hu => by
    rcases List.mem_cons.mp hu with rfl | hu
    · exact hv
    · exact hst u hu) hw)
theorem tw_ld0 {i n : Nat} {c d : tkC} {P : Option Prop} (row : ∀ {H : Heap} {locs : List Loc} {ls : Array Slot} {rest : List Value} {x : Int32}, ls[i]? = some (.val (.int x)) → W p l e R s m args below meth c0 H locs cells slots QQ (F0 m (c.1 + n) ls (.int x :: rest)) → W p l e R s m args below meth c0 H locs cells slots QQ (F0 m c.1 ls rest)) (h : tk_ld 0 i n c = some (P, d)) (k : tk_Wd p l e R s m args below meth c0 cells slots QQ E D cA ad A H0 d) : tk_Wd p l e R s m args below meth c0 cells slots QQ E D cA ad A H0 c := by
  unfold tk_ld at h
  rcases hx : c.2.1.getD i none with _ | (x | x | x) <;> rw [hx] at h <;> try dsimp only at h
  · cases h
  · cases h
    intro H locs ls hP hS hL hst hw
    exact row (hL.at hx) (k H locs ls hP hS hL (fun u hu => by
      rcases List.mem_cons.mp hu with rfl | hu
      · trivial
      · exact hst u hu) hw)
  · cases h
  · cases h
theorem tw_ld1 {i n : Nat} {c d : tkC} {P : Option Prop} (row : ∀ {H : Heap} {locs : List Loc} {ls : Array Slot} {rest : List Value} {x : Int64}, ls[i]? = some (.val (.long x)) → W p l e R s m args below meth c0 H locs cells slots QQ (F0 m (c.1 + n) ls (.long x :: rest)) → W p l e R s m args below meth c0 H locs cells slots QQ (F0 m c.1 ls rest)) (h : tk_ld 1 i n c = some (P, d)) (k : tk_Wd p l e R s m args below meth c0 cells slots QQ E D cA ad A H0 d) : tk_Wd p l e R s m args below meth c0 cells slots QQ E D cA ad A H0 c := by
  unfold tk_ld at h
  rcases hx : c.2.1.getD i none with _ | (x | x | x) <;> rw [hx] at h <;> try dsimp only at h
  · cases h
  · cases h
  · cases h
    intro H locs ls hP hS hL hst hw
    exact row (hL.at hx) (k H locs ls hP hS hL (fun u hu => by
      rcases List.mem_cons.mp hu with rfl | hu
      · trivial
      · exact hst u hu) hw)
  · cases h
theorem tw_ld2 {i n : Nat} {c d : tkC} {P : Option Prop} (row : ∀ {H : Heap} {locs : List Loc} {ls : Array Slot} {rest : List Value} {x : Nat}, ls[i]? = some (.val (.ref x)) → W p l e R s m args below meth c0 H locs cells slots QQ (F0 m (c.1 + n) ls (.ref x :: rest)) → W p l e R s m args below meth c0 H locs cells slots QQ (F0 m c.1 ls rest)) (h : tk_ld 2 i n c = some (P, d)) (k : tk_Wd p l e R s m args below meth c0 cells slots QQ E D cA ad A H0 d) : tk_Wd p l e R s m args below meth c0 cells slots QQ E D cA ad A H0 c := by
  unfold tk_ld at h
  rcases hx : c.2.1.getD i none with _ | (x | x | x) <;> rw [hx] at h <;> try dsimp only at h
  · cases h
  · cases h
  · cases h
  · cases h
    intro H locs ls hP hS hL hst hw
    exact row (hL.at hx) (k H locs ls hP hS hL (fun u hu => by
      rcases List.mem_cons.mp hu with rfl | hu
      · exact hL.2.2 i _ (tk_getD hx)
      · exact hst u hu) hw)
theorem tw_sto0 {i n : Nat} {c d : tkC} {P : Option Prop} (row : ∀ {H : Heap} {locs : List Loc} {ls : Array Slot} {rest : List Value} {x : Int32} {lv : List (Nat × Value)}, lv_has ls E.2.2.1 lv → i < E.2.2.1 → (∀ ls' : Array Slot, lv_has ls' E.2.2.1 ((i, Value.int x) :: lv.filter (fun q => !(q.1 == i) && !(q.1 + 1 == i && q.2.category == 2))) → W p l e R s m args below meth c0 H locs cells slots QQ (F0 m (c.1 + n) ls' rest)) → W p l e R s m args below meth c0 H locs cells slots QQ (F0 m c.1 ls (.int x :: rest))) (h : tk_sto 0 i n c = some (P, d)) (k : tk_Wd p l e R s m args below meth c0 cells slots QQ E D cA ad A H0 d) : tk_Wd p l e R s m args below meth c0 cells slots QQ E D cA ad A H0 c := by
  obtain ⟨pc, L, st, w⟩ := c
  unfold tk_sto at h
  dsimp only at row
  rcases st with _ | ⟨(x | x | x), r⟩ <;> try dsimp only at h
  · cases h
  · have h : (if i < L.length then some (none, (pc + n, tk_st1 L i (.inl x), r, w)) else none : tkO) = some (P, d) := h
    split at h
    · rename_i hlt
      cases h
      intro H locs ls hP hS hL hst hw
      refine row hL.2.1 (by rw [← hL.1]; exact hlt) (fun ls' hl' => ?_)
      exact k H locs ls' hP hS (tk_LR.st1 (v := .inl x) hL trivial hlt hl') (fun u hu => hst u (List.mem_cons_of_mem _ hu)) hw
    · cases h
  · cases h
  · cases h
theorem tw_sto1 {i n : Nat} {c d : tkC} {P : Option Prop} (row : ∀ {H : Heap} {locs : List Loc} {ls : Array Slot} {rest : List Value} {x : Int64} {lv : List (Nat × Value)}, lv_has ls E.2.2.1 lv → i + 1 < E.2.2.1 → (∀ ls' : Array Slot, lv_has ls' E.2.2.1 ((i, Value.long x) :: lv.filter (fun q => !(q.1 == i) && (!(q.1 == i + 1) && !(q.1 + 1 == i && q.2.category == 2)))) → W p l e R s m args below meth c0 H locs cells slots QQ (F0 m (c.1 + n) ls' rest)) → W p l e R s m args below meth c0 H locs cells slots QQ (F0 m c.1 ls (.long x :: rest))) (h : tk_sto 1 i n c = some (P, d)) (k : tk_Wd p l e R s m args below meth c0 cells slots QQ E D cA ad A H0 d) : tk_Wd p l e R s m args below meth c0 cells slots QQ E D cA ad A H0 c := by
  obtain ⟨pc, L, st, w⟩ := c
  unfold tk_sto at h
  dsimp only at row
  rcases st with _ | ⟨(x | x | x), r⟩ <;> try dsimp only at h
  · cases h
  · cases h
  · have h : (if i + 1 < L.length then some (none, (pc + n, tk_st2 L i (.inr (.inl x)), r, w)) else none : tkO) = some (P, d) := h
    split at h
    · rename_i hlt
      cases h
      intro H locs ls hP hS hL hst hw
      refine row hL.2.1 (by rw [← hL.1]; exact hlt) (fun ls' hl' => ?_)
      exact k H locs ls' hP hS (tk_LR.st2 (v := .inr (.inl x)) hL trivial hlt hl') (fun u hu => hst u (List.mem_cons_of_mem _ hu)) hw
    · cases h
  · cases h
theorem tw_sto2 {i n : Nat} {c d : tkC} {P : Option Prop} (row : ∀ {H : Heap} {locs : List Loc} {ls : Array Slot} {rest : List Value} {x : Nat} {lv : List (Nat × Value)}, lv_has ls E.2.2.1 lv → i < E.2.2.1 → (∀ ls' : Array Slot, lv_has ls' E.2.2.1 ((i, Value.ref x) :: lv.filter (fun q => !(q.1 == i) && !(q.1 + 1 == i && q.2.category == 2))) → W p l e R s m args below meth c0 H locs cells slots QQ (F0 m (c.1 + n) ls' rest)) → W p l e R s m args below meth c0 H locs cells slots QQ (F0 m c.1 ls (.ref x :: rest))) (h : tk_sto 2 i n c = some (P, d)) (k : tk_Wd p l e R s m args below meth c0 cells slots QQ E D cA ad A H0 d) : tk_Wd p l e R s m args below meth c0 cells slots QQ E D cA ad A H0 c := by
  obtain ⟨pc, L, st, w⟩ := c
  unfold tk_sto at h
  dsimp only at row
  rcases st with _ | ⟨(x | x | x), r⟩ <;> try dsimp only at h
  · cases h
  · cases h
  · cases h
  · have h : (if i < L.length then some (none, (pc + n, tk_st1 L i (.inr (.inr x)), r, w)) else none : tkO) = some (P, d) := h
    split at h
    · rename_i hlt
      cases h
      intro H locs ls hP hS hL hst hw
      refine row hL.2.1 (by rw [← hL.1]; exact hlt) (fun ls' hl' => ?_)
      exact k H locs ls' hP hS (tk_LR.st1 (v := .inr (.inr x)) hL (hst _ List.mem_cons_self) hlt hl') (fun u hu => hst u (List.mem_cons_of_mem _ hu)) hw
    · cases h
theorem tw_inc {i n : Nat} {z : Int} {c d : tkC} {P : Option Prop} (row : ∀ {H : Heap} {locs : List Loc} {ls : Array Slot} {rest : List Value} {x : Int32} {lv : List (Nat × Value)} {k : Nat}, lv_has ls E.2.2.1 lv → lv[k]? = some (i, .int x) → i < E.2.2.1 → (∀ ls' : Array Slot, lv_has ls' E.2.2.1 ((i, Value.int (x + Int32.ofInt z)) :: lv.filter (fun q => !(q.1 == i) && !(q.1 + 1 == i && q.2.category == 2))) → W p l e R s m args below meth c0 H locs cells slots QQ (F0 m (c.1 + n) ls' rest)) → W p l e R s m args below meth c0 H locs cells slots QQ (F0 m c.1 ls rest)) (h : tk_inc i z n c = some (P, d)) (k : tk_Wd p l e R s m args below meth c0 cells slots QQ E D cA ad A H0 d) : tk_Wd p l e R s m args below meth c0 cells slots QQ E D cA ad A H0 c := by
  obtain ⟨pc, L, st, w⟩ := c
  unfold tk_inc at h
  dsimp only at h row
  split at h
  · split at h
    · rename_i x hx hlt
      cases h
      intro H locs ls hP hS hL hst hw
      obtain ⟨k0, hk0⟩ := List.getElem?_of_mem (tk_as_mem (ad := ad) (q := (i, tk_cv ad (.inl x))).mpr ⟨_, Nat.zero_le _, tk_getD hx, rfl⟩)
      refine row hL.2.1 hk0 (by rw [← hL.1]; exact hlt) (fun ls' hl' => ?_)
      exact k H locs ls' hP hS (tk_LR.st1 (v := .inl (x + Int32.ofInt z)) hL trivial hlt hl') hst hw
    · cases h
  · cases h
theorem tw_i2 {f : Int32 → Int32 → Int32} {n : Nat} {c d : tkC} {P : Option Prop} (row : ∀ {H : Heap} {locs : List Loc} {ls : Array Slot} {rest : List Value} {x y : Int32}, W p l e R s m args below meth c0 H locs cells slots QQ (F0 m (c.1 + n) ls (.int (f x y) :: rest)) → W p l e R s m args below meth c0 H locs cells slots QQ (F0 m c.1 ls (.int y :: .int x :: rest))) (h : tk_i2 f n c = some (P, d)) (k : tk_Wd p l e R s m args below meth c0 cells slots QQ E D cA ad A H0 d) : tk_Wd p l e R s m args below meth c0 cells slots QQ E D cA ad A H0 c := by
  obtain ⟨pc, L, st, w⟩ := c
  unfold tk_i2 at h
  dsimp only at h row
  split at h
  · cases h
    intro H locs ls hP hS hL hst hw
    exact row (k H locs ls hP hS hL (fun u hu => by
      rcases List.mem_cons.mp hu with rfl | hu
      · trivial
      · exact hst u (List.mem_cons_of_mem _ (List.mem_cons_of_mem _ hu))) hw)
  · cases h
theorem tw_l2 {f : Int64 → Int64 → Int64} {n : Nat} {c d : tkC} {P : Option Prop} (row : ∀ {H : Heap} {locs : List Loc} {ls : Array Slot} {rest : List Value} {x y : Int64}, W p l e R s m args below meth c0 H locs cells slots QQ (F0 m (c.1 + n) ls (.long (f x y) :: rest)) → W p l e R s m args below meth c0 H locs cells slots QQ (F0 m c.1 ls (.long y :: .long x :: rest))) (h : tk_l2 f n c = some (P, d)) (k : tk_Wd p l e R s m args below meth c0 cells slots QQ E D cA ad A H0 d) : tk_Wd p l e R s m args below meth c0 cells slots QQ E D cA ad A H0 c := by
  obtain ⟨pc, L, st, w⟩ := c
  unfold tk_l2 at h
  dsimp only at h row
  split at h
  · cases h
    intro H locs ls hP hS hL hst hw
    exact row (k H locs ls hP hS hL (fun u hu => by
      rcases List.mem_cons.mp hu with rfl | hu
      · trivial
      · exact hst u (List.mem_cons_of_mem _ (List.mem_cons_of_mem _ hu))) hw)
  · cases h
theorem tw_cmp {n : Nat} {c d : tkC} {P : Option Prop} (row : ∀ {H : Heap} {locs : List Loc} {ls : Array Slot} {rest : List Value} {x y : Int64}, W p l e R s m args below meth c0 H locs cells slots QQ (F0 m (c.1 + n) ls (.int (lg_cmp x y) :: rest)) → W p l e R s m args below meth c0 H locs cells slots QQ (F0 m c.1 ls (.long y :: .long x :: rest))) (h : tk_cmp n c = some (P, d)) (k : tk_Wd p l e R s m args below meth c0 cells slots QQ E D cA ad A H0 d) : tk_Wd p l e R s m args below meth c0 cells slots QQ E D cA ad A H0 c := by
  obtain ⟨pc, L, st, w⟩ := c
  unfold tk_cmp at h
  dsimp only at h row
  split at h
  · cases h
    intro H locs ls hP hS hL hst hw
    exact row (k H locs ls hP hS hL (fun u hu => by
      rcases List.mem_cons.mp hu with rfl | hu
      · trivial
      · exact hst u (List.mem_cons_of_mem _ (List.mem_cons_of_mem _ hu))) hw)
  · cases h
theorem tw_div {n : Nat} {c d : tkC} {P : Option Prop} (row : ∀ {H : Heap} {locs : List Loc} {ls : Array Slot} {rest : List Value} {x y : Int32}, ¬ y = 0 → W p l e R s m args below meth c0 H locs cells slots QQ (F0 m (c.1 + n) ls (.int (x / y) :: rest)) → W p l e R s m args below meth c0 H locs cells slots QQ (F0 m c.1 ls (.int y :: .int x :: rest))) (h : tk_div n c = some (P, d)) (k : tk_and P (tk_Wd p l e R s m args below meth c0 cells slots QQ E D cA ad A H0 d)) : tk_Wd p l e R s m args below meth c0 cells slots QQ E D cA ad A H0 c := by
  obtain ⟨pc, L, st, w⟩ := c
  unfold tk_div at h
  dsimp only at h row
  split at h
  · cases h
    intro H locs ls hP hS hL hst hw
    exact row k.1 (k.2 H locs ls hP hS hL (fun u hu => by
      rcases List.mem_cons.mp hu with rfl | hu
      · trivial
      · exact hst u (List.mem_cons_of_mem _ (List.mem_cons_of_mem _ hu))) hw)
  · cases h
theorem tw_i1 {f : Int32 → tkV} {n : Nat} {c d : tkC} {P : Option Prop} (hf : ∀ x, tk_vok (f x)) (row : ∀ {H : Heap} {locs : List Loc} {ls : Array Slot} {rest : List Value} {x : Int32}, W p l e R s m args below meth c0 H locs cells slots QQ (F0 m (c.1 + n) ls (tk_cv ad (f x) :: rest)) → W p l e R s m args below meth c0 H locs cells slots QQ (F0 m c.1 ls (.int x :: rest))) (h : tk_i1 f n c = some (P, d)) (k : tk_Wd p l e R s m args below meth c0 cells slots QQ E D cA ad A H0 d) : tk_Wd p l e R s m args below meth c0 cells slots QQ E D cA ad A H0 c := by
  obtain ⟨pc, L, st, w⟩ := c
  unfold tk_i1 at h
  dsimp only at h row
  split at h
  · cases h
    intro H locs ls hP hS hL hst hw
    exact row (k H locs ls hP hS hL (fun u hu => by
      rcases List.mem_cons.mp hu with rfl | hu
      · exact hf _
      · exact hst u (List.mem_cons_of_mem _ hu)) hw)
  · cases h
theorem tw_l1 {f : Int64 → tkV} {n : Nat} {c d : tkC} {P : Option Prop} (hf : ∀ x, tk_vok (f x)) (row : ∀ {H : Heap} {locs : List Loc} {ls : Array Slot} {rest : List Value} {x : Int64}, W p l e R s m args below meth c0 H locs cells slots QQ (F0 m (c.1 + n) ls (tk_cv ad (f x) :: rest)) → W p l e R s m args below meth c0 H locs cells slots QQ (F0 m c.1 ls (.long x :: rest))) (h : tk_l1 f n c = some (P, d)) (k : tk_Wd p l e R s m args below meth c0 cells slots QQ E D cA ad A H0 d) : tk_Wd p l e R s m args below meth c0 cells slots QQ E D cA ad A H0 c := by
  obtain ⟨pc, L, st, w⟩ := c
  unfold tk_l1 at h
  dsimp only at h row
  split at h
  · cases h
    intro H locs ls hP hS hL hst hw
    exact row (k H locs ls hP hS hL (fun u hu => by
      rcases List.mem_cons.mp hu with rfl | hu
      · exact hf _
      · exact hst u (List.mem_cons_of_mem _ hu)) hw)
  · cases h
theorem tw_dup {n : Nat} {c d : tkC} {P : Option Prop} (row : ∀ {H : Heap} {locs : List Loc} {ls : Array Slot} {rest : List Value} {v : Value}, v.category = 1 → W p l e R s m args below meth c0 H locs cells slots QQ (F0 m (c.1 + n) ls (v :: v :: rest)) → W p l e R s m args below meth c0 H locs cells slots QQ (F0 m c.1 ls (v :: rest))) (h : tk_dup n c = some (P, d)) (k : tk_Wd p l e R s m args below meth c0 cells slots QQ E D cA ad A H0 d) : tk_Wd p l e R s m args below meth c0 cells slots QQ E D cA ad A H0 c := by
  obtain ⟨pc, L, st, w⟩ := c
  unfold tk_dup at h
  dsimp only at h row
  split at h
  · cases h
    intro H locs ls hP hS hL hst hw
    exact row (v := .int _) rfl (k H locs ls hP hS hL (fun u hu => by
      rcases List.mem_cons.mp hu with rfl | hu
      · trivial
      · exact hst u hu) hw)
  · cases h
    intro H locs ls hP hS hL hst hw
    exact row (v := .ref _) rfl (k H locs ls hP hS hL (fun u hu => by
      rcases List.mem_cons.mp hu with rfl | hu
      · exact hst _ List.mem_cons_self
      · exact hst u hu) hw)
  · cases h
theorem tw_go {off : Int} {c d : tkC} {P : Option Prop} (row : ∀ {H : Heap} {locs : List Loc} {ls : Array Slot} {rest : List Value} {t : Nat}, (c.1 : Int) + off = (t : Int) → W p l e R s m args below meth c0 H locs cells slots QQ (F0 m t ls rest) → W p l e R s m args below meth c0 H locs cells slots QQ (F0 m c.1 ls rest)) (h : tk_go off c = some (P, d)) (k : tk_Wd p l e R s m args below meth c0 cells slots QQ E D cA ad A H0 d) : tk_Wd p l e R s m args below meth c0 cells slots QQ E D cA ad A H0 c := by
  unfold tk_go at h
  split at h
  · rename_i t ht
    cases h
    unfold tk_jmp at ht
    split at ht
    · rename_i t2 h2
      cases ht
      intro H locs ls hP hS hL hst hw
      exact row h2 (k H locs ls hP hS hL hst hw)
    · cases ht
  · cases h
theorem tw_getf {idx : Nat} {c d : tkC} {P : Option Prop} (C : tk_Cx p R s m args meth c0 E D cA ad A) (hdg : decode E.2.1 c.1 = .ok (.getfield idx, 3)) (h : tk_getf E.2.2.2.2.2.2.1 idx 3 c = some (P, d)) (k : tk_Wd p l e R s m args below meth c0 cells slots QQ E D cA ad A H0 d) : tk_Wd p l e R s m args below meth c0 cells slots QQ E D cA ad A H0 c := by
  obtain ⟨hx, hb, hml, hown, hts, hr, hlk, hf, hlo, hK, hij, hA⟩ := C
  obtain ⟨pc, L, st, w⟩ := c
  unfold tk_getf at h
  dsimp only at h hdg
  split at h
  · rename_i ci b r k0 hfl
    split at h
    · rename_i hbeq
      cases h
      have hci := Nat.eq_of_beq_eq_true hbeq
      have hm := tk_lk2_mem hfl
      obtain ⟨g1, g2, g3⟩ := tk_flf _ hm
      rw [← hci] at hm g1 g2 g3 hown
      dsimp only at g1 g2 g3
      intro H locs ls hP hS hL hst hw
      have ht : (ci, b, 0) ∈ tk_ix := hst _ List.mem_cons_self
      obtain ⟨q0, -, -, he⟩ := tk_wl_at (ad := ad) (cA := cA) (w := w) ht
      refine va_get (D := D) (ci := ci) (C := tk_cn ci) (T := tk_T ci) (N := tk_N ci) (ref := tk_cn ci) hx hb hts (tk_in_ws ci g1) hown hK hP q0 he (tk_clsAt ci g1) k0 g2 (hts _ (tk_tb (tk_fws _ (List.mem_map.mpr ⟨_, hm, rfl⟩)) rfl)) (fun x hx => by rw [g3] at hx; exact hx) (v := tk_cv ad (tk_rd w ci b k0)) ?_ hdg ?_
      · show ((List.range (tk_N ci)).map fun k => tk_cv ad (tk_rd w ci b k))[k0]? = _
        rw [List.getElem?_map, List.getElem?_range g2]; rfl
      · exact k H locs ls hP hS hL (fun u hu => by
          rcases List.mem_cons.mp hu with rfl | hu
          · exact tk_rd_vok ht g2 hw
          · exact hst u (List.mem_cons_of_mem _ hu)) hw
    · cases h
  · cases h
end TKS
end
section
/-! fields and rows written; arrays; the copy; the switch -/
section TKP
variable {p : Program} {l : Launch} {e : Env} {R : Room} {s : State} {m : MethodId} {args : Array Value} {below : List Frame} {meth : Method} {c0 : Code} {cells slots : Nat} {QQ : State → Prop} {E : tkE} {D : va_G} {cA : Nat → ClassId} {ad : tkAd} {A : Nat → Prop} {H0 : Heap}
theorem tw_put {ci b k0 idx pc : Nat} {L : tkL} {r : List tkV} {w w' : tkW} {v : tkV} (C : tk_Cx p R s m args meth c0 E D cA ad A) (hci : ci = E.2.2.2.2.2.2.1) (hm : (ci, idx, k0) ∈ tk_FL) (hfin : (tk_T ci k0).2.2.2 = false) (hn : narrow (tk_ty ci k0) (tk_cv ad v) = tk_cv ad v) (hfit : fits (tk_ty ci k0) (tk_cv ad v) = true) (hdg : decode E.2.1 pc = .ok (.putfield idx, 3)) (hk : tk_rd w' ci b k0 = v) (ho : ∀ j, j ≠ k0 → tk_rd w' ci b j = tk_rd w ci b j) (hoc : ∀ t ∈ tk_ix, t ≠ (ci, b, 0) → (ci, b, 0) ∈ tk_ix → tk_cell ad cA w' t = tk_cell ad cA w t) (hwk : tk_vok v → tk_wok w → tk_wok w') (k : tk_Wd p l e R s m args below meth c0 cells slots QQ E D cA ad A H0 (pc+3, L, r, w')) : tk_Wd p l e R s m args below meth c0 cells slots QQ E D cA ad A H0 (pc, L, v ::  .inr (.inr (ci, b, 0)) :: r, w) := by
  obtain ⟨hx, hb, hml, hown, hts, hr, hlk, hf, hlo, hK, hij, hA⟩ := C
  obtain ⟨g1, g2, g3⟩ := tk_flf _ hm
  rw [← hci] at hown
  dsimp only at g1 g2 g3
  intro H locs ls hP hS hL hst hw
  dsimp only at hP hS hL hst hw
  have ht : (ci, b, 0) ∈ tk_ix := hst _ (List.mem_cons_of_mem _ List.mem_cons_self)
  obtain ⟨q0, hq47, hq0, he⟩ := tk_wl_at (ad := ad) (cA := cA) (w := w) ht
  refine va_put (D := D) (ci := ci) (C := tk_cn ci) (T := tk_T ci) (N := tk_N ci) (ref := tk_cn ci) (ty := tk_ty ci k0) (v := tk_cv ad v) hx hb hts (tk_in_ws ci g1) (tk_ty ci) (tk_tyok ci g1) (tk_nm ci g1) hown hK hP (tk_wl_D w hij hA) hS q0 he (tk_clsAt ci g1) k0 g2 (hts _ (tk_tb (tk_fws _ (List.mem_map.mpr ⟨_, hm, rfl⟩)) rfl)) (fun x hx => by rw [g3] at hx; exact hx) hfin (tk_tyok ci g1 k0 g2) hn hfit (by rw [List.length_map, List.length_range]; exact g2) hdg (fun H1 locs1 hP1 hD1 hS1 => ?_)
  have e1 : ((tk_wl ad cA w).set q0 (ad (ci, b, 0), .inr (ci, ((List.range (tk_N ci)).map fun j => tk_cv ad (tk_rd w ci b j)).set k0 (tk_cv ad v)))) = tk_wl ad cA w' := by
    rw [tk_fs_set hk ho]
    exact tk_wl_set (w' := w') hq47 hq0 (fun t h1 h2 => hoc t h1 h2 ht)
  exact k H1 locs1 ls (by rw [← e1]; exact hP1) hS1 hL (fun u hu => hst u (List.mem_cons_of_mem _ (List.mem_cons_of_mem _ hu))) (hwk (hst v List.mem_cons_self) hw)
theorem tk_rd_I {w : tkW} {ci b k j : Nat} {x : Int32} (h : j ≠ k) : tk_rd (tk_wI w ci b 0 k x) ci b j = tk_rd w ci b j := by
  have key : (tk_wI w ci b 0 k x).1 ci b 0 j = w.1 ci b 0 j := by
    show tk_so w.1 ci b (tk_u2 (w.1 ci b) 0 k x) ci b 0 j = _
    rw [tk_so_same, tk_u2_at, tk_u1_ne h]
  unfold tk_rd
  split <;> first | rfl | rw [key]
theorem tk_rd_J {w : tkW} {ci b k j : Nat} {x : Int64} (h : j ≠ k) : tk_rd (tk_wJ w ci b 0 k x) ci b j = tk_rd w ci b j := by
  have key : (tk_wJ w ci b 0 k x).2.1 ci b 0 j = w.2.1 ci b 0 j := by
    show tk_so w.2.1 ci b (tk_u2 (w.2.1 ci b) 0 k x) ci b 0 j = _
    rw [tk_so_same, tk_u2_at, tk_u1_ne h]
  unfold tk_rd
  split <;> first | rfl | rw [key]
theorem tk_rd_R {w : tkW} {ci b k j d : Nat} (h : j ≠ k) : tk_rd (w.1, w.2.1, tk_u1 w.2.2 k d) ci b j = tk_rd w ci b j := by
  unfold tk_rd
  split <;> first | rfl | (dsimp only; rw [tk_u1_ne h])
theorem tk_ix5 : ∀ t ∈ tk_ix, t.1 = 5 → t = (5, 0, 0) := by decide +kernel
theorem tk_cell_R {w : tkW} {f : Nat → Nat} {b : Nat} {t : Nat × Nat × Nat} (ht : t ∈ tk_ix) (hb : (5, b, 0) ∈ tk_ix) (hne : t ≠ (5, b, 0)) : tk_cell ad cA (w.1, w.2.1, f) t = tk_cell ad cA w t := by
  have h5 : t.1 ≠ 5 := fun q => hne ((tk_ix5 t ht q).trans (tk_ix5 _ hb rfl).symm)
  obtain ⟨a, d, r⟩ := t
  have ha := (tk_ixf _ ht).1
  unfold tk_cell
  dsimp only at h5 ha ⊢
  split
  · congr 2
    apply List.map_congr_left
    intro j hj
    have h7 := (tk_fkty a ha j (List.mem_range.mp hj)).2.2.2
    unfold tk_rd
    split <;> first | rfl | (rename_i q; exact absurd (h7 q).1 h5)
  · rfl
theorem tw_putf {idx : Nat} {c d : tkC} {P : Option Prop} (C : tk_Cx p R s m args meth c0 E D cA ad A) (hdg : decode E.2.1 c.1 = .ok (.putfield idx, 3)) (h : tk_putf E.2.2.2.2.2.2.1 idx 3 c = some (P, d)) (k : tk_and P (tk_Wd p l e R s m args below meth c0 cells slots QQ E D cA ad A H0 d)) : tk_Wd p l e R s m args below meth c0 cells slots QQ E D cA ad A H0 c := by
  obtain ⟨pc, L, st, w⟩ := c
  unfold tk_putf at h
  dsimp only at h hdg
  split at h
  · rename_i v ci b r k0 hfl
    split at h
    · rename_i hbeq
      rw [Bool.and_eq_true] at hbeq
      have hci := Nat.eq_of_beq_eq_true hbeq.1
      have hm := tk_lk2_mem hfl
      rw [← hci] at hm h hbeq
      have hfin : (tk_T ci k0).2.2.2 = false := by simpa using hbeq.2
      obtain ⟨g1, g2, g3⟩ := tk_flf _ hm
      dsimp only at g1 g2 g3
      obtain ⟨f0, f1, f2, f7⟩ := tk_fkty ci g1 k0 g2
      unfold tk_wr at h
      split at h
      · rename_i x hk0
        cases h
        refine tw_put C hci hm hfin (by rw [f0 hk0]; rfl) (by rw [f0 hk0]; rfl) hdg ?_ (fun j hj => tk_rd_I hj) (fun t _ h2 _ => tk_cell_I h2) (fun _ h => h) k
        unfold tk_rd
        rw [hk0]
        show Sum.inl (tk_so w.1 ci b (tk_u2 (w.1 ci b) 0 k0 x) ci b 0 k0) = _
        rw [tk_so_same, tk_u2_at, tk_u1_same]
      · rename_i x hk0
        cases h
        have hx01 := k.1
        refine tw_put C hci hm hfin (by rw [f1 hk0]; rcases hx01 with rfl | rfl <;> rfl) (by rw [f1 hk0]; rcases hx01 with rfl | rfl <;> rfl) hdg ?_ (fun j hj => tk_rd_I hj) (fun t _ h2 _ => tk_cell_I h2) (fun _ h => h) k.2
        unfold tk_rd
        rw [hk0]
        show Sum.inl (tk_so w.1 ci b (tk_u2 (w.1 ci b) 0 k0 x) ci b 0 k0) = _
        rw [tk_so_same, tk_u2_at, tk_u1_same]
      · rename_i x hk0
        cases h
        refine tw_put C hci hm hfin (by rw [f2 hk0]; rfl) (by rw [f2 hk0]; rfl) hdg ?_ (fun j hj => tk_rd_J hj) (fun t _ h2 _ => tk_cell_J (fun r hr => tk_u2_ne hr) h2) (fun _ h => h) k
        unfold tk_rd
        rw [hk0]
        show Sum.inr (Sum.inl (tk_so w.2.1 ci b (tk_u2 (w.2.1 ci b) 0 k0 x) ci b 0 k0)) = _
        rw [tk_so_same, tk_u2_at, tk_u1_same]
      · rename_i dd hk0
        cases h
        obtain ⟨rfl, hk2, hty⟩ := f7 hk0
        refine tw_put C hci hm hfin (by rw [hty]; rfl) (by rw [hty]; rfl) hdg ?_ (fun j hj => tk_rd_R hj) (fun t h1 h2 h3 => tk_cell_R h1 h3 h2) (fun hv hw j hj => ?_) k
        · unfold tk_rd
          rw [hk0]
          show Sum.inr (Sum.inr (1, tk_u1 w.2.2 k0 dd k0, 0)) = _
          rw [tk_u1_same]
        · by_cases q : j = k0
          · subst q
            show (1, tk_u1 w.2.2 j dd j, 0) ∈ tk_ix
            rw [tk_u1_same]; exact hv
          · show (1, tk_u1 w.2.2 k0 dd j, 0) ∈ tk_ix
            rw [tk_u1_ne q]; exact hw j hj
      · cases h
    · cases h
  · cases h
theorem tk_cell3 {w : tkW} {ci b s : Nat} (h : (tk_ak ci s).1 = 3) : tk_cell ad cA w (ci, b, s) = .inl (cA 0, ((tk_ak ci s).2, .inl (w.1 ci b s))) := by
  cases s with
  | zero => cases h
  | succ s =>
    have h : (tk_fk ci s).1 = 3 := h
    show (match (tk_fk ci s).1 with | 4 => _ | 5 => _ | _ => _) = _
    rw [h]; rfl
theorem tk_cell5 {w : tkW} {ci b s : Nat} (h : (tk_ak ci s).1 = 5) : tk_cell ad cA w (ci, b, s) = .inl (cA 2, ((tk_ak ci s).2, .inl (w.1 ci b s))) := by
  cases s with
  | zero => cases h
  | succ s =>
    have h : (tk_fk ci s).1 = 5 := h
    show (match (tk_fk ci s).1 with | 4 => _ | 5 => _ | _ => _) = _
    rw [h]; rfl
theorem tk_cell4 {w : tkW} {ci b s : Nat} (h : (tk_ak ci s).1 = 4) : tk_cell ad cA w (ci, b, s) = .inl (cA 1, ((tk_ak ci s).2, .inr (.inl (w.2.1 ci b s)))) := by
  cases s with
  | zero => cases h
  | succ s =>
    have h : (tk_fk ci s).1 = 4 := h
    show (match (tk_fk ci s).1 with | 4 => _ | 5 => _ | _ => _) = _
    rw [h]; rfl
theorem tw_ald3 {c d : tkC} {P : Option Prop} (C : tk_Cx p R s m args meth c0 E D cA ad A) (hdg : decode E.2.1 c.1 = .ok (.iaload, 1)) (h : tk_ald 3 1 c = some (P, d)) (k : tk_and P (tk_Wd p l e R s m args below meth c0 cells slots QQ E D cA ad A H0 d)) : tk_Wd p l e R s m args below meth c0 cells slots QQ E D cA ad A H0 c := by
  obtain ⟨hx, hb, hml, hown, hts, hr, hlk, hf, hlo, hK, hij, hA⟩ := C
  obtain ⟨pc, L, st, w⟩ := c
  unfold tk_ald at h
  dsimp only at h hdg
  split at h
  · rename_i j ci b sx r
    split at h
    · rename_i hbeq
      have hkd := Nat.eq_of_beq_eq_true hbeq
      cases h
      intro H locs ls hP hS hL hst hw
      have ht : (ci, b, sx) ∈ tk_ix := hst _ (List.mem_cons_of_mem _ List.mem_cons_self)
      obtain ⟨q0, -, -, he⟩ := tk_wl_at (ad := ad) (cA := cA) (w := w) ht
      rw [tk_cell3 hkd] at he
      exact va_iald hx hb hK hP q0 0 he rfl k.1 hdg (k.2 H locs ls hP hS hL (fun u hu => by
        rcases List.mem_cons.mp hu with rfl | hu
        · trivial
        · exact hst u (List.mem_cons_of_mem _ (List.mem_cons_of_mem _ hu))) hw)
    · cases h
  · cases h
theorem tw_ald5 {c d : tkC} {P : Option Prop} (C : tk_Cx p R s m args meth c0 E D cA ad A) (hdg : decode E.2.1 c.1 = .ok (.baload, 1)) (h : tk_ald 5 1 c = some (P, d)) (k : tk_and P (tk_Wd p l e R s m args below meth c0 cells slots QQ E D cA ad A H0 d)) : tk_Wd p l e R s m args below meth c0 cells slots QQ E D cA ad A H0 c := by
  obtain ⟨hx, hb, hml, hown, hts, hr, hlk, hf, hlo, hK, hij, hA⟩ := C
  obtain ⟨pc, L, st, w⟩ := c
  unfold tk_ald at h
  dsimp only at h hdg
  split at h
  · rename_i j ci b sx r
    split at h
    · rename_i hbeq
      have hkd := Nat.eq_of_beq_eq_true hbeq
      cases h
      intro H locs ls hP hS hL hst hw
      have ht : (ci, b, sx) ∈ tk_ix := hst _ (List.mem_cons_of_mem _ List.mem_cons_self)
      obtain ⟨q0, -, -, he⟩ := tk_wl_at (ad := ad) (cA := cA) (w := w) ht
      rw [tk_cell5 hkd] at he
      exact va_bald hx hb hK hP q0 2 he rfl k.1 hdg (k.2 H locs ls hP hS hL (fun u hu => by
        rcases List.mem_cons.mp hu with rfl | hu
        · trivial
        · exact hst u (List.mem_cons_of_mem _ (List.mem_cons_of_mem _ hu))) hw)
    · cases h
  · cases h
theorem tw_ald4 {c d : tkC} {P : Option Prop} (C : tk_Cx p R s m args meth c0 E D cA ad A) (hdg : decode E.2.1 c.1 = .ok (.laload, 1)) (h : tk_ald 4 1 c = some (P, d)) (k : tk_and P (tk_Wd p l e R s m args below meth c0 cells slots QQ E D cA ad A H0 d)) : tk_Wd p l e R s m args below meth c0 cells slots QQ E D cA ad A H0 c := by
  obtain ⟨hx, hb, hml, hown, hts, hr, hlk, hf, hlo, hK, hij, hA⟩ := C
  obtain ⟨pc, L, st, w⟩ := c
  unfold tk_ald at h
  dsimp only at h hdg
  split at h
  · rename_i j ci b sx r
    split at h
    · rename_i hbeq
      have hkd := Nat.eq_of_beq_eq_true hbeq
      cases h
      intro H locs ls hP hS hL hst hw
      have ht : (ci, b, sx) ∈ tk_ix := hst _ (List.mem_cons_of_mem _ List.mem_cons_self)
      obtain ⟨q0, -, -, he⟩ := tk_wl_at (ad := ad) (cA := cA) (w := w) ht
      rw [tk_cell4 hkd] at he
      exact va_lald hx hb hK hP q0 1 he rfl k.1 hdg (k.2 H locs ls hP hS hL (fun u hu => by
        rcases List.mem_cons.mp hu with rfl | hu
        · trivial
        · exact hst u (List.mem_cons_of_mem _ (List.mem_cons_of_mem _ hu))) hw)
    · cases h
  · cases h
theorem tw_ast3 {c d : tkC} {P : Option Prop} (C : tk_Cx p R s m args meth c0 E D cA ad A) (hdg : decode E.2.1 c.1 = .ok (.iastore, 1)) (h : tk_ast 3 1 c = some (P, d)) (k : tk_and P (tk_Wd p l e R s m args below meth c0 cells slots QQ E D cA ad A H0 d)) : tk_Wd p l e R s m args below meth c0 cells slots QQ E D cA ad A H0 c := by
  obtain ⟨hx, hb, hml, hown, hts, hr, hlk, hf, hlo, hK, hij, hA⟩ := C
  obtain ⟨pc, L, st, w⟩ := c
  unfold tk_ast at h
  dsimp only at h hdg
  split at h
  · rename_i x j ci b sx r
    split at h
    · rename_i hbeq
      have hkd := Nat.eq_of_beq_eq_true hbeq
      cases h
      intro H locs ls hP hS hL hst hw
      have ht : (ci, b, sx) ∈ tk_ix := hst _ (List.mem_cons_of_mem _ (List.mem_cons_of_mem _ List.mem_cons_self))
      obtain ⟨q0, hq47, hq0, he⟩ := tk_wl_at (ad := ad) (cA := cA) (w := w) ht
      rw [tk_cell3 hkd] at he
      refine va_iast hx hb hK hP (tk_wl_D w hij hA) hS q0 0 he rfl k.1 hdg (fun H1 locs1 hP1 hD1 hS1 => ?_)
      have e1 := tk_wl_set (ad := ad) (cA := cA) (w := w) (w' := tk_wI w ci b sx j.toNatClampNeg x) hq47 hq0 (fun t _ h2 => tk_cell_I h2)
      rw [tk_cell3 hkd] at e1
      have e2 : (tk_wI w ci b sx j.toNatClampNeg x).1 ci b sx = upd (w.1 ci b sx) j.toNatClampNeg x := by
        show tk_so w.1 ci b (tk_u2 (w.1 ci b) sx _ x) ci b sx = _
        rw [tk_so_same, tk_u2_at]; rfl
      rw [e2] at e1
      exact k.2 H1 locs1 ls (by show va_P D tk_cls (tk_wl ad cA (tk_wI w ci b sx j.toNatClampNeg x)) H1; rw [← e1]; exact hP1) hS1 hL (fun u hu => hst u (List.mem_cons_of_mem _ (List.mem_cons_of_mem _ (List.mem_cons_of_mem _ hu)))) hw
    · cases h
  · split at h
    · cases h
    · cases h
  · cases h
theorem tw_ast5 {c d : tkC} {P : Option Prop} (C : tk_Cx p R s m args meth c0 E D cA ad A) (hdg : decode E.2.1 c.1 = .ok (.bastore, 1)) (h : tk_ast 5 1 c = some (P, d)) (k : tk_and P (tk_Wd p l e R s m args below meth c0 cells slots QQ E D cA ad A H0 d)) : tk_Wd p l e R s m args below meth c0 cells slots QQ E D cA ad A H0 c := by
  obtain ⟨hx, hb, hml, hown, hts, hr, hlk, hf, hlo, hK, hij, hA⟩ := C
  obtain ⟨pc, L, st, w⟩ := c
  unfold tk_ast at h
  dsimp only at h hdg
  split at h
  · rename_i x j ci b sx r
    split at h
    · rename_i hbeq
      have hkd := Nat.eq_of_beq_eq_true hbeq
      cases h
      intro H locs ls hP hS hL hst hw
      have ht : (ci, b, sx) ∈ tk_ix := hst _ (List.mem_cons_of_mem _ (List.mem_cons_of_mem _ List.mem_cons_self))
      obtain ⟨q0, hq47, hq0, he⟩ := tk_wl_at (ad := ad) (cA := cA) (w := w) ht
      rw [tk_cell5 hkd] at he
      refine va_bast hx hb hK hP (tk_wl_D w hij hA) hS q0 2 he rfl k.1 hdg (fun H1 locs1 hP1 hD1 hS1 => ?_)
      have e1 := tk_wl_set (ad := ad) (cA := cA) (w := w) (w' := tk_wI w ci b sx j.toNatClampNeg (vp_nar .byte x)) hq47 hq0 (fun t _ h2 => tk_cell_I h2)
      rw [tk_cell5 hkd] at e1
      have e2 : (tk_wI w ci b sx j.toNatClampNeg (vp_nar .byte x)).1 ci b sx = upd (w.1 ci b sx) j.toNatClampNeg (vp_nar .byte x) := by
        show tk_so w.1 ci b (tk_u2 (w.1 ci b) sx _ _) ci b sx = _
        rw [tk_so_same, tk_u2_at]; rfl
      rw [e2] at e1
      exact k.2 H1 locs1 ls (by show va_P D tk_cls (tk_wl ad cA (tk_wI w ci b sx j.toNatClampNeg (vp_nar .byte x))) H1; rw [← e1]; exact hP1) hS1 hL (fun u hu => hst u (List.mem_cons_of_mem _ (List.mem_cons_of_mem _ (List.mem_cons_of_mem _ hu)))) hw
    · cases h
  · split at h
    · cases h
    · cases h
  · cases h
theorem tw_ast4 {c d : tkC} {P : Option Prop} (C : tk_Cx p R s m args meth c0 E D cA ad A) (hdg : decode E.2.1 c.1 = .ok (.lastore, 1)) (h : tk_ast 4 1 c = some (P, d)) (k : tk_and P (tk_Wd p l e R s m args below meth c0 cells slots QQ E D cA ad A H0 d)) : tk_Wd p l e R s m args below meth c0 cells slots QQ E D cA ad A H0 c := by
  obtain ⟨hx, hb, hml, hown, hts, hr, hlk, hf, hlo, hK, hij, hA⟩ := C
  obtain ⟨pc, L, st, w⟩ := c
  unfold tk_ast at h
  dsimp only at h hdg
  split at h
  · split at h
    · cases h
    · cases h
  · rename_i x j ci b sx r
    split at h
    · rename_i hbeq
      have hkd := Nat.eq_of_beq_eq_true hbeq
      cases h
      intro H locs ls hP hS hL hst hw
      have ht : (ci, b, sx) ∈ tk_ix := hst _ (List.mem_cons_of_mem _ (List.mem_cons_of_mem _ List.mem_cons_self))
      obtain ⟨q0, hq47, hq0, he⟩ := tk_wl_at (ad := ad) (cA := cA) (w := w) ht
      rw [tk_cell4 hkd] at he
      refine va_last hx hb hK hP (tk_wl_D w hij hA) hS q0 1 he rfl k.1 hdg (fun H1 locs1 hP1 hD1 hS1 => ?_)
      have e1 := tk_wl_set (ad := ad) (cA := cA) (w := w) (w' := tk_wJ w ci b sx j.toNatClampNeg x) hq47 hq0 (fun t _ h2 => tk_cell_J (fun r hr => tk_u2_ne hr) h2)
      rw [tk_cell4 hkd] at e1
      have e2 : (tk_wJ w ci b sx j.toNatClampNeg x).2.1 ci b sx = vp_updL (w.2.1 ci b sx) j.toNatClampNeg x := by
        show tk_so w.2.1 ci b (tk_u2 (w.2.1 ci b) sx _ x) ci b sx = _
        rw [tk_so_same, tk_u2_at]; rfl
      rw [e2] at e1
      exact k.2 H1 locs1 ls (by show va_P D tk_cls (tk_wl ad cA (tk_wJ w ci b sx j.toNatClampNeg x)) H1; rw [← e1]; exact hP1) hS1 hL (fun u hu => hst u (List.mem_cons_of_mem _ (List.mem_cons_of_mem _ (List.mem_cons_of_mem _ hu)))) hw
    · cases h
  · cases h
theorem tw_alen {c d : tkC} {P : Option Prop} (C : tk_Cx p R s m args meth c0 E D cA ad A) (hdg : decode E.2.1 c.1 = .ok (.arraylength, 1)) (h : tk_alen 1 c = some (P, d)) (k : tk_Wd p l e R s m args below meth c0 cells slots QQ E D cA ad A H0 d) : tk_Wd p l e R s m args below meth c0 cells slots QQ E D cA ad A H0 c := by
  obtain ⟨hx, hb, hml, hown, hts, hr, hlk, hf, hlo, hK, hij, hA⟩ := C
  obtain ⟨pc, L, st, w⟩ := c
  unfold tk_alen at h
  dsimp only at h hdg
  split at h
  · rename_i ci b sx r
    split at h
    · rename_i hbeq
      rw [Bool.and_eq_true] at hbeq
      have h3 := Nat.le_of_ble_eq_true hbeq.1
      have h5 := Nat.le_of_ble_eq_true hbeq.2
      cases h
      intro H locs ls hP hS hL hst hw
      have ht : (ci, b, sx) ∈ tk_ix := hst _ List.mem_cons_self
      obtain ⟨q0, -, -, he⟩ := tk_wl_at (ad := ad) (cA := cA) (w := w) ht
      have kk := k H locs ls hP hS hL (fun u hu => by
        rcases List.mem_cons.mp hu with rfl | hu
        · trivial
        · exact hst u (List.mem_cons_of_mem _ hu)) hw
      rcases (show (tk_ak ci sx).1 = 3 ∨ (tk_ak ci sx).1 = 4 ∨ (tk_ak ci sx).1 = 5 by omega) with q | q | q
      · rw [tk_cell3 q] at he
        exact va_alen hx hb hK hP q0 0 he (ty := .int) rfl rfl hdg kk
      · rw [tk_cell4 q] at he
        exact va_alen hx hb hK hP q0 1 he (ty := .long) rfl rfl hdg kk
      · rw [tk_cell5 q] at he
        exact va_alen hx hb hK hP q0 2 he (ty := .byte) rfl rfl hdg kk
    · cases h
  · cases h
theorem tw_sw {dflt lo hi : Int} {offs : Array Int} {n : Nat} {c d : tkC} {P : Option Prop} (C : tk_Cx p R s m args meth c0 E D cA ad A) (hdg : decode E.2.1 c.1 = .ok (.tableswitch dflt lo hi offs, n)) (h : tk_sw dflt lo hi offs c = some (P, d)) (k : tk_and P (tk_Wd p l e R s m args below meth c0 cells slots QQ E D cA ad A H0 d)) : tk_Wd p l e R s m args below meth c0 cells slots QQ E D cA ad A H0 c := by
  obtain ⟨hx, hb, hml, hown, hts, hr, hlk, hf, hlo, hK, hij, hA⟩ := C
  obtain ⟨pc, L, st, w⟩ := c
  unfold tk_sw at h
  dsimp only at h hdg
  split at h
  · rename_i x r
    cases h
    obtain ⟨⟨h1, h2, h3⟩, k⟩ := k
    try dsimp only at h3
    intro H locs ls hP hS hL hst hw
    have kk := k H locs ls hP hS hL (fun u hu => hst u (List.mem_cons_of_mem _ hu)) hw
    try dsimp only at kk
    have e : ((pc : Int) + tk_swo dflt lo hi offs x) = (((pc : Int) + tk_swo dflt lo hi offs x).toNat : Int) := (Int.toNat_of_nonneg h3).symm
    by_cases q : x.toInt < lo ∨ hi < x.toInt
    · refine lv_tableOut hx hb hdg q (tgt := ((pc : Int) + tk_swo dflt lo hi offs x).toNat) ?_ kk
      rw [← e]
      unfold tk_swo
      rw [if_pos q]
    · have q1 : ¬ x.toInt < lo := fun z => q (Or.inl z)
      have q2 : ¬ hi < x.toInt := fun z => q (Or.inr z)
      have hlt : (x.toInt - lo).toNat < offs.size := by omega
      refine lv_tableIn hx hb hdg q1 q2 (off := offs[(x.toInt - lo).toNat]) (Array.getElem?_eq_getElem hlt) (tgt := ((pc : Int) + tk_swo dflt lo hi offs x).toNat) ?_ kk
      rw [← e]
      unfold tk_swo
      rw [if_neg q]
      simp [Array.getD, hlt]
  · cases h
theorem tw_copy {idx : Nat} {c d : tkC} {P : Option Prop} (C : tk_Cx p R s m args meth c0 E D cA ad A) (hfr : 1 ≤ E.2.2.2.2.2.2.2.2.1 ∧ 18 ≤ E.2.2.2.2.2.2.2.2.2.1) (hcp : (E.2.2.2.2.2.2.1, idx, 1) ∈ tk_CP) (hdg : decode E.2.1 c.1 = .ok (.invokestatic idx, 3)) (h : tk_copy 3 c = some (P, d)) (k : tk_and P (tk_Wd p l e R s m args below meth c0 cells slots QQ E D cA ad A H0 d)) : tk_Wd p l e R s m args below meth c0 cells slots QQ E D cA ad A H0 c := by
  obtain ⟨hx, hb, hml, hown, hts, hr, hlk, hf, hlo, hK, hij, hA⟩ := C
  obtain ⟨pc, L, st, w⟩ := c
  unfold tk_copy at h
  dsimp only at h hdg
  split at h
  · rename_i n dp c1 b1 s1 sp c2 b2 s2
    split at h
    · rename_i hbeq
      rw [Bool.and_eq_true] at hbeq
      have e0 := Nat.eq_of_beq_eq_true hbeq.1
      have e1 := Nat.eq_of_beq_eq_true hbeq.2
      cases h
      obtain ⟨⟨p1, p2, p3, p4, p5⟩, k⟩ := k
      intro H locs ls hP hS hL hst hw
      have t1 : (c1, b1, s1) ∈ tk_ix := hst _ (List.mem_cons_of_mem _ (List.mem_cons_of_mem _ List.mem_cons_self))
      have t0 : (c2, b2, s2) ∈ tk_ix := hst _ (List.mem_cons_of_mem _ (List.mem_cons_of_mem _ (List.mem_cons_of_mem _ (List.mem_cons_of_mem _ List.mem_cons_self))))
      obtain ⟨q0, -, -, he0⟩ := tk_wl_at (ad := ad) (cA := cA) (w := w) t0
      obtain ⟨q1, hq47, hq1, he1⟩ := tk_wl_at (ad := ad) (cA := cA) (w := w) t1
      rw [tk_cell4 e0] at he0
      rw [tk_cell4 e1] at he1
      refine va_copyl (rest := []) hx hb (by rw [hml]; exact hL.2.1.1.symm) hown (hts _ (tk_tb (tk_cps _ (List.mem_map.mpr ⟨_, hcp, rfl⟩)) rfl)) (hts _ (tk_tb (tk_cpw _ (List.mem_cons_self)) rfl)) (hts _ (tk_tb (tk_cpw _ (List.mem_cons_of_mem _ List.mem_cons_self)) rfl)) (hts _ (tk_tb (tk_cpw _ (List.mem_cons_of_mem _ (List.mem_cons_of_mem _ List.mem_cons_self))) rfl)) hK hP (tk_wl_D w hij hA) hS q0 q1 1 1 he0 he1 (ty := .long) rfl rfl rfl p1 p2 p3 p4 p5 (fun _ _ => rfl) (by omega) ?_ hdg (fun H1 locs1 hP1 hD1 hS1 => ?_)
      · show 0 + (nativeFrameWords "java/lang/System" "arraycopy" 5 + 11) ≤ R.locals
        have : nativeFrameWords "java/lang/System" "arraycopy" 5 = 7 := by decide
        rw [this]; omega
      · have e3 := tk_wl_set (ad := ad) (cA := cA) (w := w) (w' := (w.1, tk_so w.2.1 c1 b1 (tk_u1 (w.2.1 c1 b1) s1 (va_cpy (w.2.1 c2 b2 s2) (w.2.1 c1 b1 s1) sp.toNatClampNeg dp.toNatClampNeg n.toNatClampNeg)), w.2.2)) hq47 hq1 (fun t _ h2 => tk_cell_J (fun r hr => tk_u1_ne hr) h2)
        rw [tk_cell4 e1] at e3
        have e4 : tk_so w.2.1 c1 b1 (tk_u1 (w.2.1 c1 b1) s1 (va_cpy (w.2.1 c2 b2 s2) (w.2.1 c1 b1 s1) sp.toNatClampNeg dp.toNatClampNeg n.toNatClampNeg)) c1 b1 s1 = va_cpy (w.2.1 c2 b2 s2) (w.2.1 c1 b1 s1) sp.toNatClampNeg dp.toNatClampNeg n.toNatClampNeg := by
          rw [tk_so_same, tk_u1_same]
        dsimp only at e3
        rw [e4] at e3
        exact k H1 locs1 ls (by dsimp only; rw [← e3]; exact hP1) hS1 hL (fun u hu => by cases hu) hw
    · cases h
  · cases h
end TKP
end
section
/-! the whole machine over pictures tells the truth -/
theorem tk_and_r {P : Option Prop} {X : Prop} (h : tk_and P X) : X := by
  cases P with
  | none => exact h
  | some P => exact h.2
def tk_chk (q : tkE) (x : Nat × Jvm.ClassFile.Instr × Nat) : Bool := match x.2.1 with
  | .iconst _ => Nat.beq x.2.2 1
  | .bipush _ => Nat.beq x.2.2 2
  | .sipush _ => Nat.beq x.2.2 3
  | .lconst _ => Nat.beq x.2.2 1
  | .ldc _ => Nat.beq x.2.2 2
  | .ldc_w _ => Nat.beq x.2.2 3
  | .ldc2_w _ => Nat.beq x.2.2 3
  | .iload _ => Nat.beq x.2.2 2
  | .iload_n _ => Nat.beq x.2.2 1
  | .istore _ => Nat.beq x.2.2 2
  | .istore_n _ => Nat.beq x.2.2 1
  | .lload _ => Nat.beq x.2.2 2
  | .lload_n _ => Nat.beq x.2.2 1
  | .lstore _ => Nat.beq x.2.2 2
  | .lstore_n _ => Nat.beq x.2.2 1
  | .aload _ => Nat.beq x.2.2 2
  | .aload_n _ => Nat.beq x.2.2 1
  | .astore _ => Nat.beq x.2.2 2
  | .astore_n _ => Nat.beq x.2.2 1
  | .iinc _ _ => Nat.beq x.2.2 3
  | .iadd => Nat.beq x.2.2 1
  | .isub => Nat.beq x.2.2 1
  | .imul => Nat.beq x.2.2 1
  | .iand => Nat.beq x.2.2 1
  | .ior => Nat.beq x.2.2 1
  | .ixor => Nat.beq x.2.2 1
  | .ishl => Nat.beq x.2.2 1
  | .ishr => Nat.beq x.2.2 1
  | .idiv => Nat.beq x.2.2 1
  | .ineg => Nat.beq x.2.2 1
  | .i2l => Nat.beq x.2.2 1
  | .i2b => Nat.beq x.2.2 1
  | .l2i => Nat.beq x.2.2 1
  | .lneg => Nat.beq x.2.2 1
  | .ladd => Nat.beq x.2.2 1
  | .lsub => Nat.beq x.2.2 1
  | .lcmp => Nat.beq x.2.2 1
  | .dup => Nat.beq x.2.2 1
  | .getfield _ => Nat.beq x.2.2 3
  | .putfield _ => Nat.beq x.2.2 3
  | .iaload => Nat.beq x.2.2 1
  | .laload => Nat.beq x.2.2 1
  | .baload => Nat.beq x.2.2 1
  | .iastore => Nat.beq x.2.2 1
  | .lastore => Nat.beq x.2.2 1
  | .bastore => Nat.beq x.2.2 1
  | .arraylength => Nat.beq x.2.2 1
  | .goto _ => Nat.beq x.2.2 3
  | .tableswitch _ _ _ _ => true
  | .ifCond _ _ => Nat.beq x.2.2 3
  | .if_icmp _ _ => Nat.beq x.2.2 3
  | .ireturn => Nat.beq x.2.2 1
  | .lreturn => Nat.beq x.2.2 1
  | .return_ => Nat.beq x.2.2 1
  | .invokevirtual _ => Nat.beq x.2.2 3
  | .invokestatic idx => Nat.beq x.2.2 3 && ((tk_cp q.2.2.2.2.2.2.1 idx).isNone || (Nat.ble 1 q.2.2.2.2.2.2.2.2.1 && Nat.ble 23 q.2.2.2.2.2.2.2.2.2.1))
  | _ => false
theorem tk_chks : ∀ q ∈ tk_all, ∀ x ∈ q.2.2.2.2.2.2.2.2.2.2, tk_chk q x = true := by decide +kernel
def tk_fact (q : tkE) : Bool := tk_cn q.2.2.2.2.2.2.1 == q.1.cls && plainName q.1.cls && !(q.1.cls == "java/lang/invoke/MethodHandle") && !(q.1.cls == "java/lang/invoke/VarHandle") && decide ((parseMethodDescriptor q.1.desc).map (fun d => d.parameters.length) = some q.2.2.2.2.2.1) && Nat.ble q.2.2.2.2.2.2.2.1 3
theorem tk_facts : ∀ q ∈ tk_all, tk_fact q = true := by decide +kernel
theorem tk_rks : ∀ q ∈ tk_all, (q.2.2.2.2.2.2.2.1 = 0 → q.2.2.2.1 = some .int) ∧ (q.2.2.2.2.2.2.2.1 = 1 → q.2.2.2.1 = some .boolean) ∧ (q.2.2.2.2.2.2.2.1 = 2 → q.2.2.2.1 = some .long) ∧ (q.2.2.2.2.2.2.2.1 = 3 → q.2.2.2.1 = none) := by decide +kernel
theorem tk_factd {q : tkE} (h : q ∈ tk_all) : tk_cn q.2.2.2.2.2.2.1 = q.1.cls ∧ plainName q.1.cls = true ∧ q.1.cls ≠ "java/lang/invoke/MethodHandle" ∧ q.1.cls ≠ "java/lang/invoke/VarHandle" ∧ (parseMethodDescriptor q.1.desc).map (fun d => d.parameters.length) = some q.2.2.2.2.2.1 ∧ q.2.2.2.2.2.2.2.1 ≤ 3 := by
  have h := tk_facts q h
  unfold tk_fact at h
  simp only [Bool.and_eq_true, beq_iff_eq, Bool.not_eq_true', decide_eq_true_eq] at h
  obtain ⟨⟨⟨⟨⟨h1, h2⟩, h3⟩, h4⟩, h5⟩, h6⟩ := h
  exact ⟨h1, h2, beq_eq_false_iff_ne.mp h3, beq_eq_false_iff_ne.mp h4, h5, Nat.le_of_ble_eq_true h6⟩
section TKW
variable {p : Program} {l : Launch} {e : Env} {R : Room} {s : State} {m : MethodId} {args : Array Value} {below : List Frame} {meth : Method} {c0 : Code} {cells slots : Nat} {QQ : State → Prop} {E : tkE} {D : va_G} {cA : Nat → ClassId} {ad : tkAd} {A : Nat → Prop} {H0 : Heap}
theorem tk_m8_ok {o : tkO} {c : tkC} {r : Option Prop × tkC} (h : tk_m8 o c = some r) : ((c.2.2.1.drop 2).map tk_cat).sum ≤ 8 ∧ o = some r := by
  unfold tk_m8 at h
  split at h
  · rename_i hb
    exact ⟨Nat.le_of_ble_eq_true hb, h⟩
  · cases h
theorem tk_cat_sum (ad : tkAd) : ∀ (r : List tkV), ((r.map (tk_cv ad)).map fun v => v.category).sum = (r.map tk_cat).sum := by
  intro r
  induction r with
  | nil => rfl
  | cons v t ih =>
    match v with
    | .inl x => exact congrArg (fun z => 1 + z) ih
    | .inr (.inl x) => exact congrArg (fun z => 2 + z) ih
    | .inr (.inr x) => exact congrArg (fun z => 1 + z) ih
theorem tw_m2 {f : Int64 → Int64 → Int64} {n : Nat} {c d : tkC} {P : Option Prop} (hml : c0.maxLocals = E.2.2.1) (row : ∀ {H : Heap} {locs : List Loc} {ls : Array Slot} {rest : List Value} {x y : Int64}, c0.maxLocals = ls.size → (rest.map fun v => v.category).sum ≤ 8 → W p l e R s m args below meth c0 H locs cells slots QQ (F0 m (c.1 + n) ls (.long (f x y) :: rest)) → W p l e R s m args below meth c0 H locs cells slots QQ (F0 m c.1 ls (.long y :: .long x :: rest))) (h8 : ((c.2.2.1.drop 2).map tk_cat).sum ≤ 8) (h : tk_l2 f n c = some (P, d)) (k : tk_Wd p l e R s m args below meth c0 cells slots QQ E D cA ad A H0 d) : tk_Wd p l e R s m args below meth c0 cells slots QQ E D cA ad A H0 c := by
  obtain ⟨pc, L, st, w⟩ := c
  unfold tk_l2 at h
  dsimp only at h row h8
  split at h
  · cases h
    intro H locs ls hP hS hL hst hw
    exact row (by rw [hml]; exact hL.2.1.1.symm) (by rw [tk_cat_sum]; exact h8) (k H locs ls hP hS hL (fun u hu => by
      rcases List.mem_cons.mp hu with rfl | hu
      · trivial
      · exact hst u (List.mem_cons_of_mem _ (List.mem_cons_of_mem _ hu))) hw)
  · cases h
theorem tw_m1 {f : Int32 → Int32 → Int32} {n : Nat} {c d : tkC} {P : Option Prop} (hml : c0.maxLocals = E.2.2.1) (row : ∀ {H : Heap} {locs : List Loc} {ls : Array Slot} {rest : List Value} {x y : Int32}, c0.maxLocals = ls.size → (rest.map fun v => v.category).sum ≤ 8 → W p l e R s m args below meth c0 H locs cells slots QQ (F0 m (c.1 + n) ls (.int (f x y) :: rest)) → W p l e R s m args below meth c0 H locs cells slots QQ (F0 m c.1 ls (.int y :: .int x :: rest))) (h8 : ((c.2.2.1.drop 2).map tk_cat).sum ≤ 8) (h : tk_i2 f n c = some (P, d)) (k : tk_Wd p l e R s m args below meth c0 cells slots QQ E D cA ad A H0 d) : tk_Wd p l e R s m args below meth c0 cells slots QQ E D cA ad A H0 c := by
  obtain ⟨pc, L, st, w⟩ := c
  unfold tk_i2 at h
  dsimp only at h row h8
  split at h
  · cases h
    intro H locs ls hP hS hL hst hw
    exact row (by rw [hml]; exact hL.2.1.1.symm) (by rw [tk_cat_sum]; exact h8) (k H locs ls hP hS hL (fun u hu => by
      rcases List.mem_cons.mp hu with rfl | hu
      · trivial
      · exact hst u (List.mem_cons_of_mem _ (List.mem_cons_of_mem _ hu))) hw)
  · cases h
theorem tk_ins_ok {i : Jvm.ClassFile.Instr} {n : Nat} {c d : tkC} {P : Option Prop} (hcs : cells ≤ R.cells ∧ slots ≤ R.slots) (C : tk_Cx p R s m args meth c0 E D cA ad A) (hE : E ∈ tk_all) (hat : tk_at E.2.2.2.2.2.2.2.2.2.2 c.1 = some (i, n)) (h : tk_ins E.2.2.2.2.2.2.1 i n c = some (P, d)) (k : tk_and P (tk_Wd p l e R s m args below meth c0 cells slots QQ E D cA ad A H0 d)) : tk_Wd p l e R s m args below meth c0 cells slots QQ E D cA ad A H0 c := by
  have hdg : decode E.2.1 c.1 = .ok (i, n) := tk_decs E hE (c.1, i, n) (tk_at_mem hat)
  have hc := tk_chks E hE (c.1, i, n) (tk_at_mem hat)
  unfold tk_chk at hc
  dsimp only at hc
  obtain ⟨hx, hb, hml, hown, hts, hr, hlk, hf, hlo, hK, hij, hA⟩ := id C
  cases i with
  | iconst v =>
    have hn : n = 1 := Nat.eq_of_beq_eq_true hc
    subst hn
    exact tw_push (v := .inl (Int32.ofInt v)) trivial (fun z => lv_iconst hx hb hdg rfl z) h (tk_and_r k)
  | bipush v =>
    have hn : n = 2 := Nat.eq_of_beq_eq_true hc
    subst hn
    exact tw_push (v := .inl (Int8.ofInt v).toInt32) trivial (fun z => lv_bipush hx hb hdg rfl z) h (tk_and_r k)
  | sipush v =>
    have hn : n = 3 := Nat.eq_of_beq_eq_true hc
    subst hn
    exact tw_push (v := .inl (Int16.ofInt v).toInt32) trivial (fun z => lv_sipush hx hb hdg rfl z) h (tk_and_r k)
  | lconst v =>
    have hn : n = 1 := Nat.eq_of_beq_eq_true hc
    subst hn
    exact tw_push (v := .inr (.inl (Int64.ofNat (v : Nat)))) trivial (fun z => lv_lconst hx hb hdg rfl z) h (tk_and_r k)
  | ldc idx =>
    have hn : n = 2 := Nat.eq_of_beq_eq_true hc
    subst hn
    have h : tk_kI E.2.2.2.2.2.2.1 idx 2 c = some (P, d) := h
    unfold tk_kI at h
    split at h
    · rename_i v hv
      exact tw_push (v := .inl v) trivial (fun z => lv_ldc hx hb hown (hts _ (tk_tb (tk_kis _ (List.mem_map.mpr ⟨_, tk_lk2_mem hv, rfl⟩)) rfl)) hdg z) h (tk_and_r k)
    · cases h
  | ldc_w idx =>
    have hn : n = 3 := Nat.eq_of_beq_eq_true hc
    subst hn
    have h : tk_kI E.2.2.2.2.2.2.1 idx 3 c = some (P, d) := h
    unfold tk_kI at h
    split at h
    · rename_i v hv
      exact tw_push (v := .inl v) trivial (fun z => lv_ldcw hx hb hown (hts _ (tk_tb (tk_kis _ (List.mem_map.mpr ⟨_, tk_lk2_mem hv, rfl⟩)) rfl)) hdg z) h (tk_and_r k)
    · cases h
  | ldc2_w idx =>
    have hn : n = 3 := Nat.eq_of_beq_eq_true hc
    subst hn
    have h : tk_kL E.2.2.2.2.2.2.1 idx 3 c = some (P, d) := h
    unfold tk_kL at h
    split at h
    · rename_i v hv
      exact tw_push (v := .inr (.inl v)) trivial (fun z => lv_ldc2 hx hb hown (hts _ (tk_tb (tk_kls _ (List.mem_map.mpr ⟨_, tk_lk2_mem hv, rfl⟩)) rfl)) hdg z) h (tk_and_r k)
    · cases h
  | iload j =>
    have hn : n = 2 := Nat.eq_of_beq_eq_true hc
    subst hn
    exact tw_ld0 (fun q z => lv_iload hx hb hdg q z) h (tk_and_r k)
  | iload_n j =>
    have hn : n = 1 := Nat.eq_of_beq_eq_true hc
    subst hn
    exact tw_ld0 (fun q z => lv_iload_n hx hb hdg rfl q z) h (tk_and_r k)
  | istore j =>
    have hn : n = 2 := Nat.eq_of_beq_eq_true hc
    subst hn
    exact tw_sto0 (fun q1 q2 z => lv_istore hx hb hdg q1 q2 rfl z) h (tk_and_r k)
  | istore_n j =>
    have hn : n = 1 := Nat.eq_of_beq_eq_true hc
    subst hn
    exact tw_sto0 (fun q1 q2 z => lv_istore_n hx hb hdg rfl q1 q2 rfl z) h (tk_and_r k)
  | lload j =>
    have hn : n = 2 := Nat.eq_of_beq_eq_true hc
    subst hn
    exact tw_ld1 (fun q z => lv_lload hx hb hdg q z) h (tk_and_r k)
  | lload_n j =>
    have hn : n = 1 := Nat.eq_of_beq_eq_true hc
    subst hn
    exact tw_ld1 (fun q z => lv_lload_n hx hb hdg rfl q z) h (tk_and_r k)
  | lstore j =>
    have hn : n = 2 := Nat.eq_of_beq_eq_true hc
    subst hn
    exact tw_sto1 (fun q1 q2 z => lv_lstore hx hb hdg q1 q2 rfl z) h (tk_and_r k)
  | lstore_n j =>
    have hn : n = 1 := Nat.eq_of_beq_eq_true hc
    subst hn
    exact tw_sto1 (fun q1 q2 z => lv_lstore_n hx hb hdg rfl q1 q2 rfl z) h (tk_and_r k)
  | aload j =>
    have hn : n = 2 := Nat.eq_of_beq_eq_true hc
    subst hn
    exact tw_ld2 (fun q z => lv_aload hx hb hdg q z) h (tk_and_r k)
  | aload_n j =>
    have hn : n = 1 := Nat.eq_of_beq_eq_true hc
    subst hn
    exact tw_ld2 (fun q z => lv_aload_n hx hb hdg rfl q z) h (tk_and_r k)
  | astore j =>
    have hn : n = 2 := Nat.eq_of_beq_eq_true hc
    subst hn
    exact tw_sto2 (fun q1 q2 z => lv_astore hx hb hdg q1 q2 rfl z) h (tk_and_r k)
  | astore_n j =>
    have hn : n = 1 := Nat.eq_of_beq_eq_true hc
    subst hn
    exact tw_sto2 (fun q1 q2 z => lv_astore_n hx hb hdg rfl q1 q2 rfl z) h (tk_and_r k)
  | iinc j z0 =>
    have hn : n = 3 := Nat.eq_of_beq_eq_true hc
    subst hn
    exact tw_inc (fun q1 q2 q3 z => lv_iinc hx hb hdg q1 q2 rfl q3 rfl z) h (tk_and_r k)
  | iadd =>
    have hn : n = 1 := Nat.eq_of_beq_eq_true hc
    subst hn
    exact tw_i2 (fun z => lv_iadd hx hb hdg z) h (tk_and_r k)
  | isub =>
    have hn : n = 1 := Nat.eq_of_beq_eq_true hc
    subst hn
    exact tw_i2 (fun z => lv_isub hx hb hdg z) h (tk_and_r k)
  | imul =>
    have hn : n = 1 := Nat.eq_of_beq_eq_true hc
    subst hn
    exact tw_i2 (fun z => lv_imul hx hb hdg z) h (tk_and_r k)
  | iand =>
    have hn : n = 1 := Nat.eq_of_beq_eq_true hc
    subst hn
    exact tw_i2 (fun z => lv_iand hx hb hdg z) h (tk_and_r k)
  | ior =>
    have hn : n = 1 := Nat.eq_of_beq_eq_true hc
    subst hn
    exact tw_i2 (fun z => lv_ior hx hb hdg z) h (tk_and_r k)
  | ixor =>
    have hn : n = 1 := Nat.eq_of_beq_eq_true hc
    subst hn
    exact tw_i2 (fun z => lv_ixor hx hb hdg z) h (tk_and_r k)
  | ishl =>
    have hn : n = 1 := Nat.eq_of_beq_eq_true hc
    subst hn
    exact tw_i2 (fun z => lv_ishl hx hb hdg z) h (tk_and_r k)
  | ishr =>
    have hn : n = 1 := Nat.eq_of_beq_eq_true hc
    subst hn
    exact tw_i2 (fun z => lv_ishr hx hb hdg z) h (tk_and_r k)
  | idiv =>
    have hn : n = 1 := Nat.eq_of_beq_eq_true hc
    subst hn
    exact tw_div (fun q z => lv_idiv hx hb hdg q z) h k
  | ineg =>
    have hn : n = 1 := Nat.eq_of_beq_eq_true hc
    subst hn
    exact tw_i1 (f := (fun x => .inl (-x))) (fun _ => trivial) (fun z => lv_ineg hx hb hdg z) h (tk_and_r k)
  | i2l =>
    have hn : n = 1 := Nat.eq_of_beq_eq_true hc
    subst hn
    exact tw_i1 (f := (fun x => .inr (.inl x.toInt64))) (fun _ => trivial) (fun z => lv_i2l hx hb hdg rfl z) h (tk_and_r k)
  | i2b =>
    have hn : n = 1 := Nat.eq_of_beq_eq_true hc
    subst hn
    exact tw_i1 (f := (fun x => .inl x.toInt8.toInt32)) (fun _ => trivial) (fun z => lv_i2b hx hb hdg rfl z) h (tk_and_r k)
  | l2i =>
    have hn : n = 1 := Nat.eq_of_beq_eq_true hc
    subst hn
    exact tw_l1 (f := (fun x => .inl x.toInt32)) (fun _ => trivial) (fun z => lv_l2i hx hb hdg rfl z) h (tk_and_r k)
  | lneg =>
    have hn : n = 1 := Nat.eq_of_beq_eq_true hc
    subst hn
    exact tw_l1 (f := (fun x => .inr (.inl (-x)))) (fun _ => trivial) (fun z => lv_lneg hx hb hdg z) h (tk_and_r k)
  | ladd =>
    have hn : n = 1 := Nat.eq_of_beq_eq_true hc
    subst hn
    exact tw_l2 (fun z => lv_ladd hx hb hdg z) h (tk_and_r k)
  | lsub =>
    have hn : n = 1 := Nat.eq_of_beq_eq_true hc
    subst hn
    exact tw_l2 (fun z => lv_lsub hx hb hdg z) h (tk_and_r k)
  | lcmp =>
    have hn : n = 1 := Nat.eq_of_beq_eq_true hc
    subst hn
    exact tw_cmp (fun z => W.lcmp hx hb hdg z) h (tk_and_r k)
  | dup =>
    have hn : n = 1 := Nat.eq_of_beq_eq_true hc
    subst hn
    exact tw_dup (fun q z => lv_dup hx hb hdg q z) h (tk_and_r k)
  | getfield idx =>
    have hn : n = 3 := Nat.eq_of_beq_eq_true hc
    subst hn
    exact tw_getf C hdg h (tk_and_r k)
  | putfield idx =>
    have hn : n = 3 := Nat.eq_of_beq_eq_true hc
    subst hn
    exact tw_putf C hdg h k
  | iaload =>
    have hn : n = 1 := Nat.eq_of_beq_eq_true hc
    subst hn
    exact tw_ald3 C hdg h k
  | laload =>
    have hn : n = 1 := Nat.eq_of_beq_eq_true hc
    subst hn
    exact tw_ald4 C hdg h k
  | baload =>
    have hn : n = 1 := Nat.eq_of_beq_eq_true hc
    subst hn
    exact tw_ald5 C hdg h k
  | iastore =>
    have hn : n = 1 := Nat.eq_of_beq_eq_true hc
    subst hn
    exact tw_ast3 C hdg h k
  | lastore =>
    have hn : n = 1 := Nat.eq_of_beq_eq_true hc
    subst hn
    exact tw_ast4 C hdg h k
  | bastore =>
    have hn : n = 1 := Nat.eq_of_beq_eq_true hc
    subst hn
    exact tw_ast5 C hdg h k
  | arraylength =>
    have hn : n = 1 := Nat.eq_of_beq_eq_true hc
    subst hn
    exact tw_alen C hdg h (tk_and_r k)
  | goto off =>
    have hn : n = 3 := Nat.eq_of_beq_eq_true hc
    subst hn
    exact tw_go (fun q z => lv_goto hx hb hdg q z) h (tk_and_r k)
  | tableswitch dflt lo hi offs => exact tw_sw C hdg h k
  | invokestatic idx =>
    have hc : (Nat.beq n 3 && ((tk_cp E.2.2.2.2.2.2.1 idx).isNone || (Nat.ble 1 E.2.2.2.2.2.2.2.2.1 && Nat.ble 23 E.2.2.2.2.2.2.2.2.2.1))) = true := hc
    rw [Bool.and_eq_true] at hc
    have hn : n = 3 := Nat.eq_of_beq_eq_true hc.1
    subst hn
    have h : (match tk_cp E.2.2.2.2.2.2.1 idx with | some 1 => tk_copy 3 c | some 2 => tk_m8 (tk_l2 (fun x y => if y < x then x else y) 3 c) c | some 3 => tk_m8 (tk_l2 (fun x y => if y < x then y else x) 3 c) c | some 4 => tk_m8 (tk_i2 (fun x y => if y < x then y else x) 3 c) c | _ => none) = some (P, d) := h
    have hroom : ∀ {z : Nat}, tk_cp E.2.2.2.2.2.2.1 idx = some z → 1 ≤ R.frames ∧ 23 ≤ R.locals := by
      intro z hz
      have h2 := hc.2
      rw [hz] at h2
      simp only [Option.isNone_some, Bool.false_or, Bool.and_eq_true] at h2
      exact ⟨Nat.le_trans (Nat.le_of_ble_eq_true h2.1) hf, Nat.le_trans (Nat.le_of_ble_eq_true h2.2) hlo⟩
    split at h
    · rename_i hcp
      have h2 := hc.2
      rw [hcp] at h2
      simp only [Option.isNone_some, Bool.false_or, Bool.and_eq_true] at h2
      exact tw_copy C ⟨Nat.le_of_ble_eq_true h2.1, Nat.le_trans (by decide) (Nat.le_of_ble_eq_true h2.2)⟩ (tk_lk2_mem hcp) hdg h k
    · rename_i hcp
      obtain ⟨h8, h⟩ := tk_m8_ok h
      obtain ⟨g1, g2⟩ := hroom hcp
      exact tw_m2 hml (fun q1 q2 z => va_mmax_long hx hb q1 hown (hts _ (tk_tb (tk_cps _ (List.mem_map.mpr ⟨_, tk_lk2_mem hcp, rfl⟩)) rfl)) (hts _ (tk_tb (tk_cpw _ (List.mem_of_getElem? (i := 3) rfl)) rfl)) (hts _ (tk_tb (tk_cpw _ (List.mem_of_getElem? (i := 6) rfl)) rfl)) (hts _ (tk_tb (tk_cpc _ (List.mem_of_getElem? (i := 0) rfl)) rfl)) g1 (by omega) hcs.1 hcs.2 hdg z) h8 h (tk_and_r k)
    · rename_i hcp
      obtain ⟨h8, h⟩ := tk_m8_ok h
      obtain ⟨g1, g2⟩ := hroom hcp
      exact tw_m2 hml (fun q1 q2 z => va_mmin_long hx hb q1 hown (hts _ (tk_tb (tk_cps _ (List.mem_map.mpr ⟨_, tk_lk2_mem hcp, rfl⟩)) rfl)) (hts _ (tk_tb (tk_cpw _ (List.mem_of_getElem? (i := 4) rfl)) rfl)) (hts _ (tk_tb (tk_cpw _ (List.mem_of_getElem? (i := 6) rfl)) rfl)) (hts _ (tk_tb (tk_cpc _ (List.mem_of_getElem? (i := 1) rfl)) rfl)) g1 (by omega) hcs.1 hcs.2 hdg z) h8 h (tk_and_r k)
    · rename_i hcp
      obtain ⟨h8, h⟩ := tk_m8_ok h
      obtain ⟨g1, g2⟩ := hroom hcp
      exact tw_m1 hml (fun q1 q2 z => va_mmin hx hb q1 hown (hts _ (tk_tb (tk_cps _ (List.mem_map.mpr ⟨_, tk_lk2_mem hcp, rfl⟩)) rfl)) (hts _ (tk_tb (tk_cpw _ (List.mem_of_getElem? (i := 5) rfl)) rfl)) (hts _ (tk_tb (tk_cpw _ (List.mem_of_getElem? (i := 6) rfl)) rfl)) (hts _ (tk_tb (tk_cpc _ (List.mem_of_getElem? (i := 2) rfl)) rfl)) g1 (by omega) hcs.1 hcs.2 hdg z) h8 h (tk_and_r k)
    · cases h
  | _ => cases h
theorem tk_br_ok {i : Jvm.ClassFile.Instr} {n : Nat} {c c1 c2 : tkC} {P : Prop × Prop} (C : tk_Cx p R s m args meth c0 E D cA ad A) (hE : E ∈ tk_all) (hat : tk_at E.2.2.2.2.2.2.2.2.2.2 c.1 = some (i, n)) (h : tk_br i n c = some (P, c1, c2)) (k1 : P.1 → tk_Wd p l e R s m args below meth c0 cells slots QQ E D cA ad A H0 c1) (k2 : P.2 → tk_Wd p l e R s m args below meth c0 cells slots QQ E D cA ad A H0 c2) : tk_Wd p l e R s m args below meth c0 cells slots QQ E D cA ad A H0 c := by
  have hdg : decode E.2.1 c.1 = .ok (i, n) := tk_decs E hE (c.1, i, n) (tk_at_mem hat)
  have hc := tk_chks E hE (c.1, i, n) (tk_at_mem hat)
  unfold tk_chk at hc
  dsimp only at hc
  obtain ⟨hx, hb, hml, hown, hts, hr, hlk, hf, hlo, hK, hij, hA⟩ := id C
  have jmp : ∀ {off : Int} {t : Nat}, tk_jmp c.1 off = some t → (c.1 : Int) + off = (t : Int) := by
    intro off t ht
    unfold tk_jmp at ht
    split at ht
    · rename_i t2 h2
      cases ht
      exact h2
    · cases ht
  cases i with
  | ifCond cd off =>
    have hn : n = 3 := Nat.eq_of_beq_eq_true hc
    subst hn
    obtain ⟨pc, L, st, w⟩ := c
    unfold tk_br at h
    dsimp only at h hdg jmp
    split at h
    · rename_i x r t hj
      cases h
      have hj := jmp hj
      intro H locs ls hP hS hL hst hw
      have hst' : ∀ v ∈ r, tk_vok v := fun u hu => hst u (List.mem_cons_of_mem _ hu)
      cases cd
      · exact lv_if_eq hx hb hdg hj (fun q => k1 q H locs ls hP hS hL hst' hw) (fun q => k2 q H locs ls hP hS hL hst' hw)
      · exact lv_if_ne hx hb hdg hj (fun q => k1 q H locs ls hP hS hL hst' hw) (fun q => k2 q H locs ls hP hS hL hst' hw)
      · exact lv_if_lt hx hb hdg hj (fun q => k1 q H locs ls hP hS hL hst' hw) (fun q => k2 q H locs ls hP hS hL hst' hw)
      · exact lv_if_ge hx hb hdg hj (fun q => k1 q H locs ls hP hS hL hst' hw) (fun q => k2 q H locs ls hP hS hL hst' hw)
      · exact lv_if_gt hx hb hdg hj (fun q => k1 q H locs ls hP hS hL hst' hw) (fun q => k2 q H locs ls hP hS hL hst' hw)
      · exact lv_if_le hx hb hdg hj (fun q => k1 q H locs ls hP hS hL hst' hw) (fun q => k2 q H locs ls hP hS hL hst' hw)
    · cases h
  | if_icmp cd off =>
    have hn : n = 3 := Nat.eq_of_beq_eq_true hc
    subst hn
    obtain ⟨pc, L, st, w⟩ := c
    unfold tk_br at h
    dsimp only at h hdg jmp
    split at h
    · rename_i y x r t hj
      cases h
      have hj := jmp hj
      intro H locs ls hP hS hL hst hw
      have hst' : ∀ v ∈ r, tk_vok v := fun u hu => hst u (List.mem_cons_of_mem _ (List.mem_cons_of_mem _ hu))
      cases cd
      · exact lv_icmp_eq hx hb hdg hj (fun q => k1 q H locs ls hP hS hL hst' hw) (fun q => k2 q H locs ls hP hS hL hst' hw)
      · exact lv_icmp_ne hx hb hdg hj (fun q => k1 q H locs ls hP hS hL hst' hw) (fun q => k2 q H locs ls hP hS hL hst' hw)
      · exact lv_icmp_lt hx hb hdg hj (fun q => k1 q H locs ls hP hS hL hst' hw) (fun q => k2 q H locs ls hP hS hL hst' hw)
      · exact lv_icmp_ge hx hb hdg hj (fun q => k1 q H locs ls hP hS hL hst' hw) (fun q => k2 q H locs ls hP hS hL hst' hw)
      · exact lv_icmp_gt hx hb hdg hj (fun q => k1 q H locs ls hP hS hL hst' hw) (fun q => k2 q H locs ls hP hS hL hst' hw)
      · exact lv_icmp_le hx hb hdg hj (fun q => k1 q H locs ls hP hS hL hst' hw) (fun q => k2 q H locs ls hP hS hL hst' hw)
    · cases h
  | _ => cases h
end TKW
/-- what tkDn is taken for -/
def tk_X (l : Launch) : tkM → tkC → tkQ → Prop := fun M c Q => ∀ (E : tkE), E ∈ tk_all → E.2.2.2.2.2.2 = M → ∀ (p : Program) (e : Env) (R : Room) (s : State) (m : MethodId) (args : Array Value) (below : List Frame) (meth : Method) (c0 : Code) (cells slots : Nat) (QQ : State → Prop) (D : va_G) (cA : Nat → ClassId) (ad : tkAd) (A : Nat → Prop) (H0 : Heap), tk_Cx p R s m args meth c0 E D cA ad A → cells ≤ R.cells → slots ≤ R.slots →
  (∀ (d : tkC) (i : Jvm.ClassFile.Instr) (n : Nat) (P : Option Prop) (r : Option tkV), tk_at M.2.2.2.2 d.1 = some (i, n) → tk_ret M.2.1 i d.2.2.1 = some (P, r) → tk_and P (Q r d.2.2.2) → tk_Wd p l e R s m args below meth c0 cells slots QQ E D cA ad A H0 d) → tk_Wd p l e R s m args below meth c0 cells slots QQ E D cA ad A H0 c
theorem tk_X_mono (l : Launch) : tk_mono (tk_X l) := by
  intro M c Q Q' hQ h E hE hM p e R s m args below meth c0 cells slots QQ D cA ad A H0 C k1 k2 k
  exact h E hE hM p e R s m args below meth c0 cells slots QQ D cA ad A H0 C k1 k2 (fun d i n P r a1 a2 a3 => k d i n P r a1 a2 (tk_and_mono (hQ _ _) a3))
theorem tk_as_rep (ad : tkAd) : ∀ (n i : Nat), tk_as ad i (List.replicate n none) = [] := by
  intro n
  induction n with
  | zero => intro i; rfl
  | succ n ih => intro i; exact ih (i + 1)
theorem tk_as_en (ad : tkAd) (n : Nat) : ∀ (as : List tkV) (i : Nat), tk_as ad i (tk_en as ++ List.replicate n none) = lv_args i (as.map (tk_cv ad)) := by
  intro as
  induction as with
  | nil => intro i; exact tk_as_rep ad n i
  | cons v r ih =>
    intro i
    match v with
    | .inl x => exact congrArg (fun z => (i, Value.int x) :: z) (ih (i + 1))
    | .inr (.inl x) => exact congrArg (fun z => (i, Value.long x) :: z) (ih (i + 1 + 1))
    | .inr (.inr x) => exact congrArg (fun z => (i, Value.ref (ad x)) :: z) (ih (i + 1))
theorem tk_en_len (ad : tkAd) : ∀ (as : List tkV), (lg_sl (as.map (tk_cv ad))).length = (tk_en as).length := by
  intro as
  induction as with
  | nil => rfl
  | cons v r ih =>
    match v with
    | .inl x => exact congrArg (fun z => z + 1) ih
    | .inr (.inl x) => exact congrArg (fun z => z + 1 + 1) ih
    | .inr (.inr x) => exact congrArg (fun z => z + 1) ih
theorem tk_en_vok {as : List tkV} (h : ∀ v ∈ as, tk_vok v) : ∀ u, some u ∈ tk_en as → tk_vok u := by
  induction as with
  | nil => intro u hu; cases hu
  | cons v r ih =>
    have ih := ih (fun v hv => h v (List.mem_cons_of_mem _ hv))
    have hv := h v List.mem_cons_self
    intro u hu
    match v, hv, hu with
    | .inl x, hv, hu =>
      rcases List.mem_cons.mp hu with q | hu
      · cases q; exact hv
      · exact ih u hu
    | .inr (.inl x), hv, hu =>
      rcases List.mem_cons.mp hu with q | hu
      · cases q; exact hv
      · rcases List.mem_cons.mp hu with q | hu
        · cases q
        · exact ih u hu
    | .inr (.inr x), hv, hu =>
      rcases List.mem_cons.mp hu with q | hu
      · cases q; exact hv
      · exact ih u hu
theorem tk_LR_entry {ad : tkAd} {as : List tkV} {n : Nat} (h : (tk_en as).length ≤ n) (hv : ∀ v ∈ as, tk_vok v) : tk_LR ad (tk_ent as n) ((lg_sl (as.map (tk_cv ad)) ++ List.replicate (n - (lg_sl (as.map (tk_cv ad))).length) Slot.unset).toArray) n := by
  refine ⟨?_, ?_, fun i v hi => ?_⟩
  · unfold tk_ent
    rw [List.length_append, List.length_replicate]; omega
  · unfold tk_ent
    rw [tk_as_en]
    exact lv_entry _ (by rw [tk_en_len]; exact h)
  · have hm := List.mem_of_getElem? hi
    unfold tk_ent at hm
    rcases List.mem_append.mp hm with q | q
    · exact tk_en_vok hv v q
    · have := List.eq_of_mem_replicate q
      cases this
def tk_Qc (rk : Nat) (Q : tkQ) (B : tkW → State → Prop) (A : Nat → Prop) : Array Value → State → Outcome → State → Prop := match rk with
  | 2 => va_Ql (fun r u => Q (some (.inr (.inl r))) u) B A
  | 3 => va_Qv (fun u => Q none u) B A
  | _ => va_Qi (fun r u => Q (some (.inl r)) u) B A
set_option maxHeartbeats 1000000 in
theorem tk_met {l : Launch} {E : tkE} (hE : E ∈ tk_all) {as : List tkV} {w : tkW} {Q : tkQ} (h : tk_X l E.2.2.2.2.2.2 (0, tk_ent as E.2.2.1, [], w) Q) (hlen : (tk_en as).length ≤ E.2.2.1) (hv : ∀ v ∈ as, tk_vok v) (hw : tk_wok w) {D : va_G} {cA : Nat → ClassId} {ad : tkAd} {A : Nat → Prop} (hij : ∀ t ∈ tk_ix, ∀ t' ∈ tk_ix, ad t = ad t' → t = t') (hA : ∀ t ∈ tk_ix, A (ad t)) :
    Met l E.1 (Cond.code E.1 E.2.1 E.2.2.1 E.2.2.2.1 :: tk_TB) ({ frames := E.2.2.2.2.2.2.2.2.1, cells := 0, slots := 0, locals := E.2.2.2.2.2.2.2.2.2.1 }) (va_Pc (as.map (tk_cv ad)) (fun U => va_P D tk_cls (tk_wl ad cA w) U.heap ∧ va_K D tk_cls (tk_tyl cA) U)) (tk_Qc E.2.2.2.2.2.2.2.1 Q (fun u t => va_P D tk_cls (tk_wl ad cA u) t.heap ∧ tk_wok u) A) 0 0 A := by
  obtain ⟨f1, f2, f3, f4, f5, f6⟩ := tk_factd hE
  obtain ⟨r0, r1, r2, r3⟩ := tk_rks E hE
  refine Met.ofW (cc := E.2.1) (maxL := E.2.2.1) (ret := E.2.2.2.1) f2 rfl ?_
  intro p e s m args below meth c s₁ B hml hv0
  obtain ⟨rfl, hP, hK⟩ := hv0
  have hts := atoms_spec (ws := Cond.code E.1 E.2.1 E.2.2.1 E.2.2.2.1 :: tk_TB) B.pre
  have hown : s.vm.findClass (tk_cn E.2.2.2.2.2.2.1) = some m.cls := by rw [f1]; exact findClass_of_methodNamed B.named
  have C : tk_Cx p { frames := E.2.2.2.2.2.2.2.2.1, cells := 0, slots := 0, locals := E.2.2.2.2.2.2.2.2.2.1 } s m (as.map (tk_cv ad)).toArray meth c E D cA ad A := ⟨B.exec, B.bytes, hml, hown, fun w hw => hts w (List.mem_cons_of_mem _ hw), B.returns, B.notSynchronized, Nat.le_refl _, Nat.le_refl _, hK, hij, hA⟩
  have hlocks := B.notSynchronized
  have hx := B.exec
  have hb := B.bytes
  have hr := B.returns
  rw [lg_entry_eq]
  refine h E hE rfl p e _ s m _ below meth c 0 0 _ D cA ad A s.heap C (Nat.zero_le _) (Nat.zero_le _) ?_ s.heap [] _ hP va_S.rf (tk_LR_entry hlen hv) (fun v hv => by cases hv) hw
  intro d i n P r hat hret hq H locs ls hP hS hL hst hw
  have hdg : decode E.2.1 d.1 = .ok (i, n) := tk_decs E hE (d.1, i, n) (tk_at_mem hat)
  have hc := tk_chks E hE (d.1, i, n) (tk_at_mem hat)
  unfold tk_chk at hc
  dsimp only at hc
  obtain ⟨pc, L, st, w2⟩ := d
  dsimp only at hret hq hP hS hL hst hw hdg ⊢
  cases i with
  | ireturn =>
    have hn : n = 1 := Nat.eq_of_beq_eq_true hc
    subst hn
    unfold tk_ret at hret
    dsimp only at hret
    split at hret
    · rename_i x hrk
      cases hret
      refine W.iret (v := x) hx hb (by rw [hr]; exact r0 hrk) (fun t ht hW => ?_) hS.2.2 hdg
      rw [hrk]
      exact ⟨⟨x, w2, rfl, hq, by rw [ht]; exact hP, hw⟩, hS.F ht⟩
    · rename_i x hrk
      cases hret
      refine W.zret (v := x) hx hb (by rw [hr]; exact r1 hrk) (by rcases hq.1 with rfl | rfl <;> rfl) (fun t ht hW => ?_) hS.2.2 hdg
      rw [hrk]
      exact ⟨⟨x, w2, rfl, hq.2, by rw [ht]; exact hP, hw⟩, hS.F ht⟩
    · cases hret
  | lreturn =>
    have hn : n = 1 := Nat.eq_of_beq_eq_true hc
    subst hn
    unfold tk_ret at hret
    dsimp only at hret
    split at hret
    · rename_i x hrk
      cases hret
      refine W.lret (v := x) hx hb (by rw [hr]; exact r2 hrk) (fun t ht hW => ?_) hS.2.2 hdg
      rw [hrk]
      exact ⟨⟨x, w2, rfl, hq, by rw [ht]; exact hP, hw⟩, hS.F ht⟩
    · cases hret
  | return_ =>
    have hn : n = 1 := Nat.eq_of_beq_eq_true hc
    subst hn
    unfold tk_ret at hret
    dsimp only at hret
    split at hret
    · rename_i hrk
      cases hret
      refine W.vret hx hb (by rw [hr]; exact r3 hrk) (fun t ht hW => ?_) hS.2.2 hdg
      rw [hrk]
      exact ⟨⟨w2, rfl, hq, by rw [ht]; exact hP, hw⟩, hS.F ht⟩
    · cases hret
  | _ => cases hret
end
section
/-! calls, and the end of it: what tkDn says, the machine does -/
theorem tk_good_in {e : tkE} (he : e ∈ tk_all) : GoodIn tk_TB (Cond.code e.1 e.2.1 e.2.2.1 e.2.2.2.1 :: tk_TB) := by
  intro w hw
  have hc : tk_code e ∈ lw_tbl := tk_codes _ (List.mem_map.mpr ⟨e, he, rfl⟩)
  rcases List.mem_cons.mp hw with rfl | hw
  · exact ⟨tk_tb hc rfl, Or.inl rfl⟩
  · exact ⟨hw, good_of_word (List.mem_filter.mp hw).2⟩
theorem tk_Qc_case {rk : Nat} (h : rk ≤ 3) : rk = 0 ∨ rk = 1 ∨ rk = 2 ∨ rk = 3 := by omega
section TKC
variable {p : Program} {l : Launch} {e0 : Env} {R : Room} {s : State} {m : MethodId} {args : Array Value} {below : List Frame} {meth : Method} {c0 : Code} {cells slots : Nat} {QQ : State → Prop} {E : tkE} {D : va_G} {cA : Nat → ClassId} {ad : tkAd} {A : Nat → Prop} {H0 : Heap}
/-- behind a call, by the kind of the answer -/
theorem tw_back {e : tkE} (he : e ∈ tk_all) {pc : Nat} {L : tkL} {rest : List tkV} {Q' : tkQ} {H : Heap} {locs : List Loc} {ls : Array Slot} {st0 : List Value} {a : Array Value} (hS : va_S A H0 H locs) (hL : tk_LR ad L ls E.2.2.1) (hrest : ∀ v ∈ rest, tk_vok v)
    (hrun : va_Run p l e0 R s m args below meth c0 H locs cells slots 0 0 (F0 m pc ls st0) (rest.map (tk_cv ad)) (tk_Qc e.2.2.2.2.2.2.2.1 Q' (fun u t => va_P D tk_cls (tk_wl ad cA u) t.heap ∧ tk_wok u) A a) A)
    (k : ∀ (r : Option tkV) (u : tkW), Q' r u → (∀ v, r = some v → tk_vok v) → tk_Wd p l e0 R s m args below meth c0 cells slots QQ E D cA ad A H0 (pc + 3, L, r.toList ++ rest, u)) :
    W p l e0 R s m args below meth c0 H locs cells slots QQ (F0 m pc ls st0) := by
  obtain ⟨f1, f2, f3, f4, f5, f6⟩ := tk_factd he
  rcases tk_Qc_case f6 with q | q | q | q <;> rw [q] at hrun
  · refine va_calli (a := a) hrun hS (fun _ _ h => h) (fun _ h => h) (fun r u t H1 locs1 ht hvm hw hB hz1 hk1 hS1 => ?_)
    exact k (some (.inl r)) u hw (fun v hv => by cases hv; trivial) H1 locs1 ls (by rw [← ht]; exact hB.1) hS1 hL (fun v hv => by
      rcases List.mem_cons.mp hv with rfl | hv
      · trivial
      · exact hrest v hv) hB.2
  · refine va_calli (a := a) hrun hS (fun _ _ h => h) (fun _ h => h) (fun r u t H1 locs1 ht hvm hw hB hz1 hk1 hS1 => ?_)
    exact k (some (.inl r)) u hw (fun v hv => by cases hv; trivial) H1 locs1 ls (by rw [← ht]; exact hB.1) hS1 hL (fun v hv => by
      rcases List.mem_cons.mp hv with rfl | hv
      · trivial
      · exact hrest v hv) hB.2
  · refine va_calll (a := a) hrun hS (fun _ _ h => h) (fun _ h => h) (fun r u t H1 locs1 ht hvm hw hB hz1 hk1 hS1 => ?_)
    exact k (some (.inr (.inl r))) u hw (fun v hv => by cases hv; trivial) H1 locs1 ls (by rw [← ht]; exact hB.1) hS1 hL (fun v hv => by
      rcases List.mem_cons.mp hv with rfl | hv
      · trivial
      · exact hrest v hv) hB.2
  · refine va_callv (a := a) hrun hS (fun _ _ h => h) (fun _ h => h) (fun u t H1 locs1 ht hvm hw hB hz1 hk1 hS1 => ?_)
    exact k none u hw (fun v hv => by cases hv) H1 locs1 ls (by rw [← ht]; exact hB.1) hS1 hL hrest hB.2
theorem tk_call_ok {i : Jvm.ClassFile.Instr} {n : Nat} {c : tkC} {e : tkE} {as rest : List tkV} {Q' : tkQ} (hcs : cells ≤ R.cells ∧ slots ≤ R.slots) (C : tk_Cx p R s m args meth c0 E D cA ad A) (hE : E ∈ tk_all) (hat : tk_at E.2.2.2.2.2.2.2.2.2.2 c.1 = some (i, n)) (hc : tk_call E.2.2.2.2.2.2 i c.2.2.1 = some (e, as, rest)) (h : tk_X l e.2.2.2.2.2.2 (0, tk_ent as e.2.2.1, [], c.2.2.2) Q')
    (k : ∀ (r : Option tkV) (u : tkW), Q' r u → tk_Wd p l e0 R s m args below meth c0 cells slots QQ E D cA ad A H0 (c.1 + 3, c.2.1, r.toList ++ rest, u)) : tk_Wd p l e0 R s m args below meth c0 cells slots QQ E D cA ad A H0 c := by
  have hdg : decode E.2.1 c.1 = .ok (i, n) := tk_decs E hE (c.1, i, n) (tk_at_mem hat)
  have hck := tk_chks E hE (c.1, i, n) (tk_at_mem hat)
  unfold tk_chk at hck
  dsimp only at hck
  obtain ⟨hx, hb, hml, hown, hts, hr, hlk, hf, hlo, hK, hij, hA⟩ := id C
  obtain ⟨pc, L, st, w⟩ := c
  dsimp only at hdg hc h k
  cases i with
  | invokestatic idx =>
    have hn : n = 3 := by
      have hck : (Nat.beq n 3 && ((tk_cp E.2.2.2.2.2.2.1 idx).isNone || (Nat.ble 1 E.2.2.2.2.2.2.2.2.1 && Nat.ble 23 E.2.2.2.2.2.2.2.2.2.1))) = true := hck
      rw [Bool.and_eq_true] at hck
      exact Nat.eq_of_beq_eq_true hck.1
    subst hn
    unfold tk_call at hc
    dsimp only at hc
    split at hc
    · rename_i kk hk
      split at hc
      · rename_i e1 he1
        split at hc
        · rename_i hbool
          cases hc
          simp only [Bool.and_eq_true] at hbool
          obtain ⟨⟨⟨⟨b1, b2⟩, b3⟩, b4⟩, b5⟩ := hbool
          have he := List.mem_of_getElem? he1
          obtain ⟨f1, f2, f3, f4, f5, f6⟩ := tk_factd he
          unfold tk_rm at b2
          rw [Bool.and_eq_true] at b2
          have r1 := Nat.le_of_ble_eq_true b2.1
          have r2 := Nat.le_of_ble_eq_true b2.2
          have l1 := Nat.le_of_ble_eq_true b3
          have l2 := Nat.le_of_ble_eq_true b4
          have l3 := Nat.le_of_ble_eq_true b5
          intro H locs ls hP hS hL hst hw
          have hvs : ∀ v ∈ (st.take e.2.2.2.2.2.1).reverse, tk_vok v := fun v hv => hst v (List.mem_of_mem_take (List.mem_reverse.mp hv))
          have hvr : ∀ v ∈ st.drop e.2.2.2.2.2.1, tk_vok v := fun v hv => hst v (List.mem_of_mem_drop hv)
          have hlen : (tk_en (st.take e.2.2.2.2.2.1).reverse).length ≤ e.2.2.1 := by
            have : ∀ (l1 l2 : List tkV), (tk_en (l1 ++ l2)).length = (tk_en l1).length + (tk_en l2).length := by
              intro l1 l2
              induction l1 with
              | nil => show _ = 0 + _; rw [Nat.zero_add]; rfl
              | cons v t ih =>
                match v with
                | .inl x => show (tk_en (t ++ l2)).length + 1 = (tk_en t).length + 1 + _; omega
                | .inr (.inl x) => show (tk_en (t ++ l2)).length + 1 + 1 = (tk_en t).length + 1 + 1 + _; omega
                | .inr (.inr x) => show (tk_en (t ++ l2)).length + 1 = (tk_en t).length + 1 + _; omega
            have hrev : ∀ (l1 : List tkV), (tk_en l1.reverse).length = (tk_en l1).length := by
              intro l1
              induction l1 with
              | nil => rfl
              | cons v t ih => rw [List.reverse_cons, this, ih, show v :: t = [v] ++ t from rfl, this]; omega
            rw [hrev]; exact l3
          have hM := tk_met (D := D) (cA := cA) (ad := ad) (A := A) he h hlen hvs hw hij hA
          have hw1 : tk_w1 e ∈ lw_tbl := tk_w1s _ (List.mem_map.mpr ⟨e, he, rfl⟩)
          have hst1 : Cond.static e.1 ∈ lw_tbl := by
            unfold tk_w1 at hw1
            rw [if_pos b1] at hw1
            exact hw1
          have hini : Cond.initialized e.1.cls ∈ lw_tbl := tk_inis _ (List.mem_map.mpr ⟨e, he, rfl⟩)
          have hml1 : Cond.methodLink (tk_cn E.2.2.2.2.2.2.1) idx e.1 ∈ lw_tbl := by
            have := tk_mws _ (List.mem_map.mpr ⟨_, tk_lk2_mem hk, rfl⟩)
            unfold tk_mw at this
            dsimp only at this
            rw [he1] at this
            exact this
          refine tw_back (Q' := Q') he hS hL hvr (a := ((st.take e.2.2.2.2.2.1).reverse.map (tk_cv ad)).toArray) ?_ (fun r u hq _ => k r u hq)
          refine va_runS (As := (st.take e.2.2.2.2.2.1).reverse.map (tk_cv ad)) (bytes := e.2.1) (maxL := e.2.2.1) (ret := e.2.2.2.1) (n := e.2.2.2.2.2.1) ⟨hx, hb, hml, hown, hts⟩ hM ⟨callB_of _ hts (tk_good_in he) rfl rfl rfl (hts _ (tk_tb hini rfl)) (hts _ (tk_tb hml1 rfl)) ⟨f3, f4, f5⟩ ⟨Nat.le_trans r1 hf, Nat.le_trans r2 hlo⟩, hts _ (tk_tb hst1 rfl)⟩ ⟨fun a U g mk q => ?_, fun U hU hW => ?_⟩ rfl ?_ hL.2.1.1 ?_ ?_ hdg ⟨hcs.1, hcs.2⟩
          · obtain ⟨q0, qP, qK⟩ := q
            exact ⟨q0, qP, va_K.moved (u := U) (U := U.calling g mk a) (Vm.Alike.refl U.vm) qK⟩
          · exact ⟨rfl, by rw [hU]; exact hP, va_K.moved hW.alike hK⟩
          · rw [List.length_map, List.length_reverse, List.length_take]; omega
          · show st.map (tk_cv ad) = ((st.take _).reverse.map (tk_cv ad)).reverse ++ (st.drop _).map (tk_cv ad)
            rw [← List.map_reverse, List.reverse_reverse, ← List.map_append, List.take_append_drop]
          · exact lv_room (by rw [tk_cat_sum]; exact l2)
        · cases hc
      · cases hc
    · cases hc
  | invokevirtual idx =>
    have hn : n = 3 := Nat.eq_of_beq_eq_true hck
    subst hn
    unfold tk_call at hc
    dsimp only at hc
    split at hc
    · rename_i kk hk
      split at hc
      · rename_i e1 he1
        split at hc
        · rename_i hbool
          split at hc
          · rename_i ci bb r hdrop
            split at hc
            · rename_i hbool2
              cases hc
              simp only [Bool.and_eq_true] at hbool hbool2
              obtain ⟨⟨⟨⟨b1, b2⟩, b3⟩, b4⟩, b5⟩ := hbool
              have hci := Nat.eq_of_beq_eq_true hbool2.1
              have hci6 := Nat.le_of_ble_eq_true hbool2.2
              have he := List.mem_of_getElem? he1
              obtain ⟨f1, f2, f3, f4, f5, f6⟩ := tk_factd he
              unfold tk_rm at b2
              rw [Bool.and_eq_true] at b2
              have r1 := Nat.le_of_ble_eq_true b2.1
              have r2 := Nat.le_of_ble_eq_true b2.2
              have l1 := Nat.le_of_ble_eq_true b3
              have l2 := Nat.le_of_ble_eq_true b4
              have l3 := Nat.le_of_ble_eq_true b5
              have hdr1 : st.drop (e.2.2.2.2.2.1 + 1) = rest := by
                have : st.drop (e.2.2.2.2.2.1 + 1) = (st.drop e.2.2.2.2.2.1).drop 1 := by rw [List.drop_drop]
                rw [this, hdrop]; rfl
              have htk1 : st.take (e.2.2.2.2.2.1 + 1) = st.take e.2.2.2.2.2.1 ++ [.inr (.inr (ci, bb, 0))] := by
                rw [List.take_add, hdrop]; rfl
              rw [hdr1] at l2
              intro H locs ls hP hS hL hst hw
              have ht : (ci, bb, 0) ∈ tk_ix := hst (.inr (.inr (ci, bb, 0))) (List.mem_of_mem_drop (i := e.2.2.2.2.2.1) (by rw [hdrop]; exact List.mem_cons_self))
              have hvs : ∀ v ∈ (Sum.inr (Sum.inr (ci, bb, 0)) : tkV) :: (st.take e.2.2.2.2.2.1).reverse, tk_vok v := fun v hv => by
                rcases List.mem_cons.mp hv with rfl | hv
                · exact ht
                · exact hst v (List.mem_of_mem_take (List.mem_reverse.mp hv))
              have hvr : ∀ v ∈ rest, tk_vok v := fun v hv => hst v (List.mem_of_mem_drop (i := e.2.2.2.2.2.1 + 1) (by rw [hdr1]; exact hv))
              have hlen : (tk_en ((Sum.inr (Sum.inr (ci, bb, 0)) : tkV) :: (st.take e.2.2.2.2.2.1).reverse)).length ≤ e.2.2.1 := by
                have : ∀ (l1 l2 : List tkV), (tk_en (l1 ++ l2)).length = (tk_en l1).length + (tk_en l2).length := by
                  intro l1 l2
                  induction l1 with
                  | nil => show _ = 0 + _; rw [Nat.zero_add]; rfl
                  | cons v t ih =>
                    match v with
                    | .inl x => show (tk_en (t ++ l2)).length + 1 = (tk_en t).length + 1 + _; omega
                    | .inr (.inl x) => show (tk_en (t ++ l2)).length + 1 + 1 = (tk_en t).length + 1 + 1 + _; omega
                    | .inr (.inr x) => show (tk_en (t ++ l2)).length + 1 = (tk_en t).length + 1 + _; omega
                have hrev : ∀ (l1 : List tkV), (tk_en l1.reverse).length = (tk_en l1).length := by
                  intro l1
                  induction l1 with
                  | nil => rfl
                  | cons v t ih => rw [List.reverse_cons, this, ih, show v :: t = [v] ++ t from rfl, this]; omega
                rw [htk1, this] at l3
                rw [show (Sum.inr (Sum.inr (ci, bb, 0)) : tkV) :: (st.take e.2.2.2.2.2.1).reverse = [Sum.inr (Sum.inr (ci, bb, 0))] ++ (st.take e.2.2.2.2.2.1).reverse from rfl, this, hrev]
                omega
              have hM := tk_met (D := D) (cA := cA) (ad := ad) (A := A) he h hlen hvs hw hij hA
              have b1' : e.2.2.2.2.1 = false := by simpa using b1
              have hin1 : Cond.instanceMethod e.1 ∈ lw_tbl := by
                have hw1 : tk_w1 e ∈ lw_tbl := tk_w1s _ (List.mem_map.mpr ⟨e, he, rfl⟩)
                unfold tk_w1 at hw1
                rw [b1'] at hw1
                exact hw1
              have hse1 : Cond.selects e.1.cls e.1 e.1 ∈ lw_tbl := by
                have hw2 : tk_w2 e ∈ lw_tbl := tk_w2s _ (List.mem_map.mpr ⟨e, he, rfl⟩)
                unfold tk_w2 at hw2
                rw [b1'] at hw2
                exact hw2
              have hini : Cond.initialized e.1.cls ∈ lw_tbl := tk_inis _ (List.mem_map.mpr ⟨e, he, rfl⟩)
              have hml1 : Cond.methodLink (tk_cn E.2.2.2.2.2.2.1) idx e.1 ∈ lw_tbl := by
                have := tk_mws _ (List.mem_map.mpr ⟨_, tk_lk2_mem hk, rfl⟩)
                unfold tk_mw at this
                dsimp only at this
                rw [he1] at this
                exact this
              obtain ⟨q0, -, -, hq0⟩ := tk_wl_at (ad := ad) (cA := cA) (w := w) ht
              have hrecv := va_recv hK hP (tk_clsAt ci (by omega)) hq0
              dsimp only at hrecv
              rw [hci, f1] at hrecv
              refine tw_back (Q' := Q') he hS hL hvr (a := (Value.ref (ad (ci, bb, 0)) :: (st.take e.2.2.2.2.2.1).reverse.map (tk_cv ad)).toArray) ?_ (fun r u hq _ => k r u hq)
              refine va_runV (C := e.1.cls) (As := (st.take e.2.2.2.2.2.1).reverse.map (tk_cv ad)) (bytes := e.2.1) (maxL := e.2.2.1) (ret := e.2.2.2.1) (n := e.2.2.2.2.2.1) ⟨hx, hb, hml, hown, hts⟩ hM ⟨callB_of _ hts (tk_good_in he) rfl rfl rfl (hts _ (tk_tb hini rfl)) (hts _ (tk_tb hml1 rfl)) ⟨f3, f4, f5⟩ ⟨Nat.le_trans r1 hf, Nat.le_trans r2 hlo⟩, hts _ (tk_tb hin1 rfl), hts _ (tk_tb hse1 rfl)⟩ ⟨fun a U g mk q => ?_, ?_, fun U hU hW => ?_⟩ rfl ?_ hL.2.1.1 ?_ ?_ hdg ⟨hcs.1, hcs.2⟩
              · obtain ⟨q0, qP, qK⟩ := q
                exact ⟨q0, qP, va_K.moved (u := U) (U := U.calling g mk a) (Vm.Alike.refl U.vm) qK⟩
              · rw [← hci] at hrecv
                exact hrecv
              · exact ⟨rfl, by rw [hU]; exact hP, va_K.moved hW.alike hK⟩
              · rw [List.length_map, List.length_reverse, List.length_take]; omega
              · show st.map (tk_cv ad) = ((st.take _).reverse.map (tk_cv ad)).reverse ++ Value.ref (ad (ci, bb, 0)) :: rest.map (tk_cv ad)
                rw [← List.map_reverse, List.reverse_reverse]
                have : st.map (tk_cv ad) = (st.take e.2.2.2.2.2.1 ++ st.drop e.2.2.2.2.2.1).map (tk_cv ad) := by rw [List.take_append_drop]
                rw [this, hdrop, List.map_append]; rfl
              · exact lv_room (by rw [tk_cat_sum]; exact l2)
            · cases hc
          · cases hc
        · cases hc
      · cases hc
    · cases hc
  | _ => cases hc
end TKC
theorem tk_X_closed (l : Launch) : ∀ M c Q, tk_F (tk_X l) M c Q → tk_X l M c Q := by
  intro M c Q h E hE hM p e R s m args below meth c0 cells slots QQ D cA ad A H0 C k1 k2 k
  subst hM
  unfold tk_F at h
  split at h
  · exact h.elim
  · rename_i i n hat
    split at h
    · rename_i P d hi
      exact tk_ins_ok ⟨k1, k2⟩ C hE hat hi (tk_and_mono (fun z => z E hE rfl p e R s m args below meth c0 cells slots QQ D cA ad A H0 C k1 k2 k) h)
    · split at h
      · rename_i P c1 c2 hb
        exact tk_br_ok C hE hat hb (fun q => h.1 q E hE rfl p e R s m args below meth c0 cells slots QQ D cA ad A H0 C k1 k2 k) (fun q => h.2 q E hE rfl p e R s m args below meth c0 cells slots QQ D cA ad A H0 C k1 k2 k)
      · split at h
        · rename_i P r hr
          exact k c i n P r hat hr h
        · split at h
          · rename_i e1 as rest hc
            exact tk_call_ok ⟨k1, k2⟩ C hE hat hc h (fun r u z => z E hE rfl p e R s m args below meth c0 cells slots QQ D cA ad A H0 C k1 k2 k)
          · exact h.elim
theorem tk_sound (l : Launch) {M : tkM} {c : tkC} {Q : tkQ} (h : tkDn M c Q) : tk_X l M c Q := h (tk_X l) (tk_X_mono l) (tk_X_closed l)
/-- a method's contract out of tkDn -/
theorem tk_contract {l : Launch} {E : tkE} (hE : E ∈ tk_all) {as : List tkV} {w : tkW} {Q : tkQ} (h : tkDn E.2.2.2.2.2.2 (0, tk_ent as E.2.2.1, [], w) Q) (hlen : (tk_en as).length ≤ E.2.2.1) (hv : ∀ v ∈ as, tk_vok v) (hw : tk_wok w) {D : va_G} {cA : Nat → ClassId} {ad : tkAd} {A : Nat → Prop} (hij : ∀ t ∈ tk_ix, ∀ t' ∈ tk_ix, ad t = ad t' → t = t') (hA : ∀ t ∈ tk_ix, A (ad t)) :
    Met l E.1 (Cond.code E.1 E.2.1 E.2.2.1 E.2.2.2.1 :: tk_TB) ({ frames := E.2.2.2.2.2.2.2.2.1, cells := 0, slots := 0, locals := E.2.2.2.2.2.2.2.2.2.1 }) (va_Pc (as.map (tk_cv ad)) (fun U => va_P D tk_cls (tk_wl ad cA w) U.heap ∧ va_K D tk_cls (tk_tyl cA) U)) (tk_Qc E.2.2.2.2.2.2.2.1 Q (fun u t => va_P D tk_cls (tk_wl ad cA u) t.heap ∧ tk_wok u) A) 0 0 A :=
  tk_met hE (tk_sound l h) hlen hv hw hij hA
end
section
/-! rows for walking the machine over pictures -/
theorem dn_ret0 {M : tkM} {c : tkC} {Q : tkQ} {i : Jvm.ClassFile.Instr} {n : Nat} {r : Option tkV} (ha : tk_at M.2.2.2.2 c.1 = some (i, n)) (hi : tk_ins M.1 i n c = none) (hb : tk_br i n c = none) (hr : tk_ret M.2.1 i c.2.2.1 = some (none, r)) (h : Q r c.2.2.2) : tkDn M c Q := dn_ret ha hi hb hr h
theorem dn_retb {M : tkM} {c : tkC} {Q : tkQ} {i : Jvm.ClassFile.Instr} {n : Nat} {r : Option tkV} {x : Int32} (ha : tk_at M.2.2.2.2 c.1 = some (i, n)) (hi : tk_ins M.1 i n c = none) (hb : tk_br i n c = none) (hr : tk_ret M.2.1 i c.2.2.1 = some (some (x = 0 ∨ x = 1), r)) (hx : x = 0 ∨ x = 1) (h : Q r c.2.2.2) : tkDn M c Q := dn_ret ha hi hb hr ⟨hx, h⟩
/-- a loop that counts up -/
theorem dn_for {α : Type} (H Inv : Nat → α → Prop) (e : Nat) (hx : ∀ s, Inv e s → H e s) (hs : ∀ i s, i < e → Inv i s → (∀ s', Inv (i + 1) s' → H (i + 1) s') → H i s) : ∀ i s, i ≤ e → Inv i s → H i s := by
  intro i s hi
  obtain ⟨n, hn⟩ : ∃ n, i + n = e := ⟨e - i, by omega⟩
  induction n generalizing i s with
  | zero =>
    have : i = e := by omega
    subst this
    exact hx s
  | succ n ih =>
    intro h
    exact hs i s (by omega) h (fun s' h' => ih (i + 1) s' (by omega) (by omega) h')
end
section
/-! the net as numbers: moments, links, gifts; beginnings, ends, lows, highs, gift numbers, the gifts' links -/
abbrev tkS : Type := Nat × Nat × Nat × (Nat → Nat) × (Nat → Nat) × (Nat → Int32) × (Nat → Int32) × (Nat → Int32) × (Nat → Nat)
def sM (S : tkS) : Nat := S.1
def sL (S : tkS) : Nat := S.2.1
def sG (S : tkS) : Nat := S.2.2.1
def sf (S : tkS) : Nat → Nat := S.2.2.2.1
def se (S : tkS) : Nat → Nat := S.2.2.2.2.1
def slo (S : tkS) : Nat → Int32 := S.2.2.2.2.2.1
def shi (S : tkS) : Nat → Int32 := S.2.2.2.2.2.2.1
def sgn (S : tkS) : Nat → Int32 := S.2.2.2.2.2.2.2.1
def sgl (S : tkS) : Nat → Nat := S.2.2.2.2.2.2.2.2
def NetP (X : Nat → Nat → Int32) (S : tkS) : Prop := X 0 0 = nI (sM S) ∧ X 0 1 = nI (sL S) ∧ X 0 2 = nI (sG S) ∧ (∀ j, j < sL S → X 4 j = nI (sf S j) ∧ X 5 j = nI (se S j) ∧ X 6 j = slo S j ∧ X 7 j = shi S j ∧ X 8 j = sgn S j) ∧ ∀ g, g < sG S → X 9 g = nI (sgl S g)
/-- the gift that ends at m, from g on; g + n if there is none -/
def gtF (S : tkS) (m : Nat) : Nat → Nat → Nat
  | 0, g => g
  | n + 1, g => if se S (sgl S g) = m then g else gtF S m n (g + 1)
def gt (S : tkS) (m : Nat) : Nat := gtF S m (sG S) 0
/-- the n-th beginning behind m -/
def up (S : tkS) : Nat → Nat → Option Nat
  | 0, m => some m
  | n + 1, m => if gt S m < sG S then up S n (sf S (sgl S (gt S m))) else none
def bnd (S : tkS) (j : Nat) : Prop := -100000 ≤ (slo S j).toInt ∧ (slo S j).toInt ≤ (shi S j).toInt ∧ (shi S j).toInt ≤ 100000
def WF (S : tkS) : Prop := sM S ≤ 16 ∧ sL S ≤ 60 ∧ sG S ≤ 6 ∧ (∀ j, j < sL S → sf S j < sM S ∧ se S j < sM S ∧ sf S j ≠ se S j ∧ bnd S j ∧ (sgn S j = -9 ∨ ∃ g, g < sG S ∧ sgn S j = nI g ∧ sgl S g = j)) ∧ (∀ g, g < sG S → sgl S g < sL S ∧ sgn S (sgl S g) = nI g ∧ 1 ≤ (slo S (sgl S g)).toInt) ∧ (∀ g h, g < sG S → h < sG S → se S (sgl S g) = se S (sgl S h) → g = h) ∧ (∀ g h, g < h → h < sG S → sgl S g < sgl S h) ∧ ∃ r : Nat → Nat, ∀ g, g < sG S → r (sf S (sgl S g)) < r (se S (sgl S g))
theorem gtF_le (S : tkS) (m : Nat) : ∀ n g, gtF S m n g ≤ g + n := by
  intro n
  induction n with
  | zero => intro g; exact Nat.le_refl _
  | succ n ih =>
    intro g
    unfold gtF
    split
    · omega
    · have := ih (g + 1); omega
theorem gtF_ge (S : tkS) (m : Nat) : ∀ n g, g ≤ gtF S m n g := by
  intro n
  induction n with
  | zero => intro g; exact Nat.le_refl _
  | succ n ih =>
    intro g
    unfold gtF
    split
    · omega
    · have := ih (g + 1); omega
theorem gtF_lt {S : tkS} {m : Nat} : ∀ {n g}, gtF S m n g < g + n → se S (sgl S (gtF S m n g)) = m := by
  intro n
  induction n with
  | zero => intro g h; exact absurd h (Nat.lt_irrefl _)
  | succ n ih =>
    intro g h
    unfold gtF at h ⊢
    split
    · assumption
    · rename_i q
      rw [if_neg q] at h
      exact ih (by omega)
theorem gtF_none {S : tkS} {m : Nat} : ∀ {n g}, gtF S m n g = g + n → ∀ h, g ≤ h → h < g + n → se S (sgl S h) ≠ m := by
  intro n
  induction n with
  | zero => intro g _ h h1 h2; omega
  | succ n ih =>
    intro g e h h1 h2
    unfold gtF at e
    split at e
    · omega
    · rename_i q
      by_cases z : g = h
      · subst z; exact q
      · exact ih (g := g + 1) (by omega) h (by omega) (by omega)
theorem gt_le (S : tkS) (m : Nat) : gt S m ≤ sG S := by
  have := gtF_le S m (sG S) 0
  unfold gt; omega
theorem gt_lt {S : tkS} {m : Nat} (h : gt S m < sG S) : se S (sgl S (gt S m)) = m := gtF_lt (by rw [Nat.zero_add]; exact h)
theorem NetP.m {X : Nat → Nat → Int32} {S : tkS} (h : NetP X S) : X 0 0 = nI (sM S) := h.1
theorem NetP.l {X : Nat → Nat → Int32} {S : tkS} (h : NetP X S) : X 0 1 = nI (sL S) := h.2.1
theorem NetP.g {X : Nat → Nat → Int32} {S : tkS} (h : NetP X S) : X 0 2 = nI (sG S) := h.2.2.1
theorem NetP.fr {X : Nat → Nat → Int32} {S : tkS} (h : NetP X S) (w : WF S) {j : Nat} (hj : j < sL S) : X 4 (nI j).toNatClampNeg = nI (sf S j) := by rw [nI_clamp (by have := w.2.1; omega)]; exact (h.2.2.2.1 j hj).1
theorem NetP.en {X : Nat → Nat → Int32} {S : tkS} (h : NetP X S) (w : WF S) {j : Nat} (hj : j < sL S) : X 5 (nI j).toNatClampNeg = nI (se S j) := by rw [nI_clamp (by have := w.2.1; omega)]; exact (h.2.2.2.1 j hj).2.1
theorem NetP.lo {X : Nat → Nat → Int32} {S : tkS} (h : NetP X S) (w : WF S) {j : Nat} (hj : j < sL S) : X 6 (nI j).toNatClampNeg = slo S j := by rw [nI_clamp (by have := w.2.1; omega)]; exact (h.2.2.2.1 j hj).2.2.1
theorem NetP.hi {X : Nat → Nat → Int32} {S : tkS} (h : NetP X S) (w : WF S) {j : Nat} (hj : j < sL S) : X 7 (nI j).toNatClampNeg = shi S j := by rw [nI_clamp (by have := w.2.1; omega)]; exact (h.2.2.2.1 j hj).2.2.2.1
theorem NetP.gn {X : Nat → Nat → Int32} {S : tkS} (h : NetP X S) (w : WF S) {j : Nat} (hj : j < sL S) : X 8 (nI j).toNatClampNeg = sgn S j := by rw [nI_clamp (by have := w.2.1; omega)]; exact (h.2.2.2.1 j hj).2.2.2.2
theorem NetP.gl {X : Nat → Nat → Int32} {S : tkS} (h : NetP X S) (w : WF S) {g : Nat} (hg : g < sG S) : X 9 (nI g).toNatClampNeg = nI (sgl S g) := by rw [nI_clamp (by have := w.2.2.1; omega)]; exact h.2.2.2.2 g hg
theorem WF.gl {S : tkS} (w : WF S) {g : Nat} (hg : g < sG S) : sgl S g < sL S := (w.2.2.2.2.1 g hg).1
theorem WF.fM {S : tkS} (w : WF S) {j : Nat} (hj : j < sL S) : sf S j < sM S := (w.2.2.2.1 j hj).1
theorem WF.eM {S : tkS} (w : WF S) {j : Nat} (hj : j < sL S) : se S j < sM S := (w.2.2.2.1 j hj).2.1
/-- at most so many different numbers below G -/
theorem pigeon : ∀ (G n : Nat) (f : Nat → Nat), (∀ i, i < n → f i < G) → (∀ i j, i < n → j < n → f i = f j → i = j) → n ≤ G := by
  intro G
  induction G with
  | zero =>
    intro n f h _
    rcases Nat.eq_zero_or_pos n with q | q
    · omega
    · exact absurd (h 0 q) (Nat.not_lt_zero _)
  | succ G ih =>
    intro n f h inj
    cases n with
    | zero => omega
    | succ n =>
      -- the place of G, if any, is given to the last one
      by_cases hG : ∃ i, i < n + 1 ∧ f i = G
      · obtain ⟨i0, hi0, he0⟩ := hG
        have := ih n (fun i => if i = i0 then f n else f i) (fun i hi => by
          try dsimp only
          split
          · rename_i q
            have hn := h n (Nat.lt_succ_self n)
            have hne : f n ≠ G := fun z => by
              have := inj n i0 (Nat.lt_succ_self n) hi0 (z.trans he0.symm)
              omega
            omega
          · rename_i q
            have hi' := h i (by omega)
            have hne : f i ≠ G := fun z => q (inj i i0 (by omega) hi0 (z.trans he0.symm))
            omega) (fun i j hi hj e => by
          try dsimp only at e
          split at e <;> split at e
          · omega
          · rename_i q1 q2
            have := inj n j (Nat.lt_succ_self n) (by omega) e
            omega
          · rename_i q1 q2
            have := inj i n (by omega) (Nat.lt_succ_self n) e
            omega
          · exact inj i j (by omega) (by omega) e)
        omega
      · have := ih (n + 1) f (fun i hi => by
          have h1 := h i hi
          have : f i ≠ G := fun z => hG ⟨i, hi, z⟩
          omega) inj
        omega
theorem up_lt {S : tkS} (w : WF S) : ∀ n m, m < sM S → ∀ k, up S n m = some k → k < sM S := by
  intro n
  induction n with
  | zero => intro m hm k h; cases h; exact hm
  | succ n ih =>
    intro m hm k h
    unfold up at h
    split at h
    · rename_i q
      exact ih _ (w.fM (w.gl q)) k h
    · cases h
theorem up_rank {S : tkS} {r : Nat → Nat} (hr : ∀ g, g < sG S → r (sf S (sgl S g)) < r (se S (sgl S g))) : ∀ n m k, up S n m = some k → r k + n ≤ r m := by
  intro n
  induction n with
  | zero => intro m k h; cases h; exact Nat.le_refl _
  | succ n ih =>
    intro m k h
    unfold up at h
    split at h
    · rename_i q
      have h1 := ih _ k h
      have h2 := hr _ q
      rw [gt_lt q] at h2
      omega
    · cases h
theorem up_add {S : tkS} : ∀ a b m k, up S a m = some k → up S (a + b) m = up S b k := by
  intro a
  induction a with
  | zero => intro b m k h; cases h; rw [Nat.zero_add]
  | succ a ih =>
    intro b m k h
    unfold up at h
    split at h
    · rename_i q
      rw [show a + 1 + b = (a + b) + 1 by omega]
      show (if gt S m < sG S then _ else _) = _
      rw [if_pos q]
      exact ih b _ k h
    · cases h
theorem up_pre {S : tkS} {n m k i : Nat} (h : up S n m = some k) (hi : i ≤ n) : ∃ j, up S i m = some j := by
  induction i generalizing m n with
  | zero => exact ⟨m, rfl⟩
  | succ i ih =>
    cases n with
    | zero => omega
    | succ n =>
      unfold up at h ⊢
      split at h
      · rename_i q
        rw [if_pos q]
        exact ih h (by omega)
      · cases h
/-- going back takes at most as many steps as there are gifts -/
theorem up_le {S : tkS} (w : WF S) {n m k : Nat} (h : up S n m = some k) : n ≤ sG S := by
  obtain ⟨r, hr⟩ := w.2.2.2.2.2.2.2
  have key : ∀ i, i < n → ∃ j, up S i m = some j ∧ gt S j < sG S := by
    intro i hi
    obtain ⟨j, hj⟩ := up_pre h (Nat.le_of_lt hi)
    obtain ⟨j2, hj2⟩ := up_pre h (show i + 1 ≤ n from hi)
    refine ⟨j, hj, ?_⟩
    rw [up_add i 1 m j hj] at hj2
    unfold up at hj2
    split at hj2
    · assumption
    · cases hj2
  refine pigeon (sG S) n (fun i => match up S i m with | some j => gt S j | none => 0) (fun i hi => ?_) (fun i j hi hj e => ?_)
  · obtain ⟨a, ha, hg⟩ := key i hi
    try dsimp only
    rw [ha]; exact hg
  · obtain ⟨a, ha, hga⟩ := key i hi
    obtain ⟨c, hc, hgc⟩ := key j hj
    try dsimp only at e
    rw [ha, hc] at e
    try dsimp only at e
    have e2 : a = c := by rw [← gt_lt hga, ← gt_lt hgc, e]
    subst e2
    rcases Nat.lt_trichotomy i j with q | q | q
    · have h1 := up_add i (j - i) m a ha
      rw [show i + (j - i) = j by omega, hc] at h1
      have := up_rank hr (j - i) a a h1.symm
      omega
    · exact q
    · have h1 := up_add j (i - j) m a hc
      rw [show j + (i - j) = i by omega, ha] at h1
      have := up_rank hr (i - j) a a h1.symm
      omega
end
section
/-! Net: its methods, one by one -/
theorem sn_momentCount {I : tkI} {J : tkJ} {R : Nat → Nat} {b : Nat} {Q : tkQ} (hQ : Q (some (.inl (I 1 b 0 0))) (I, J, R)) : tkDn tm_12 (0, [some (.inr (.inr (1, b, 0)))], [], (I, J, R)) Q := by
  refine dn_run 2 (show tkDn tm_12 (4, [some (.inr (.inr (1, b, 0)))], [.inl (I 1 b 0 0)], (I, J, R)) _ from ?_)
  refine dn_ret0 rfl rfl rfl rfl ?_
  exact hQ
theorem sn_linkCount {I : tkI} {J : tkJ} {R : Nat → Nat} {b : Nat} {Q : tkQ} (hQ : Q (some (.inl (I 1 b 0 1))) (I, J, R)) : tkDn tm_13 (0, [some (.inr (.inr (1, b, 0)))], [], (I, J, R)) Q := by
  refine dn_run 2 (show tkDn tm_13 (4, [some (.inr (.inr (1, b, 0)))], [.inl (I 1 b 0 1)], (I, J, R)) _ from ?_)
  refine dn_ret0 rfl rfl rfl rfl ?_
  exact hQ
theorem sn_giftCount {I : tkI} {J : tkJ} {R : Nat → Nat} {b : Nat} {Q : tkQ} (hQ : Q (some (.inl (I 1 b 0 2))) (I, J, R)) : tkDn tm_14 (0, [some (.inr (.inr (1, b, 0)))], [], (I, J, R)) Q := by
  refine dn_run 2 (show tkDn tm_14 (4, [some (.inr (.inr (1, b, 0)))], [.inl (I 1 b 0 2)], (I, J, R)) _ from ?_)
  refine dn_ret0 rfl rfl rfl rfl ?_
  exact hQ
theorem sn_linkFrom {I : tkI} {J : tkJ} {R : Nat → Nat} {b : Nat} {Q : tkQ} {l : Int32} (hl : vp_in l 60) (hQ : Q (some (.inl (I 1 b 4 l.toNatClampNeg))) (I, J, R)) : tkDn tm_19 (0, [some (.inr (.inr (1, b, 0))), some (.inl l)], [], (I, J, R)) Q := by
  refine dn_run 4 (show (vp_in l 60) ∧ tkDn tm_19 (6, [some (.inr (.inr (1, b, 0))), some (.inl l)], [.inl (I 1 b 4 l.toNatClampNeg)], (I, J, R)) _ from ⟨hl, ?_⟩)
  refine dn_ret0 rfl rfl rfl rfl ?_
  exact hQ
theorem sn_linkTo {I : tkI} {J : tkJ} {R : Nat → Nat} {b : Nat} {Q : tkQ} {l : Int32} (hl : vp_in l 60) (hQ : Q (some (.inl (I 1 b 5 l.toNatClampNeg))) (I, J, R)) : tkDn tm_20 (0, [some (.inr (.inr (1, b, 0))), some (.inl l)], [], (I, J, R)) Q := by
  refine dn_run 4 (show (vp_in l 60) ∧ tkDn tm_20 (6, [some (.inr (.inr (1, b, 0))), some (.inl l)], [.inl (I 1 b 5 l.toNatClampNeg)], (I, J, R)) _ from ⟨hl, ?_⟩)
  refine dn_ret0 rfl rfl rfl rfl ?_
  exact hQ
theorem sn_linkLow {I : tkI} {J : tkJ} {R : Nat → Nat} {b : Nat} {Q : tkQ} {l : Int32} (hl : vp_in l 60) (hQ : Q (some (.inl (I 1 b 6 l.toNatClampNeg))) (I, J, R)) : tkDn tm_21 (0, [some (.inr (.inr (1, b, 0))), some (.inl l)], [], (I, J, R)) Q := by
  refine dn_run 4 (show (vp_in l 60) ∧ tkDn tm_21 (6, [some (.inr (.inr (1, b, 0))), some (.inl l)], [.inl (I 1 b 6 l.toNatClampNeg)], (I, J, R)) _ from ⟨hl, ?_⟩)
  refine dn_ret0 rfl rfl rfl rfl ?_
  exact hQ
theorem sn_linkHigh {I : tkI} {J : tkJ} {R : Nat → Nat} {b : Nat} {Q : tkQ} {l : Int32} (hl : vp_in l 60) (hQ : Q (some (.inl (I 1 b 7 l.toNatClampNeg))) (I, J, R)) : tkDn tm_22 (0, [some (.inr (.inr (1, b, 0))), some (.inl l)], [], (I, J, R)) Q := by
  refine dn_run 4 (show (vp_in l 60) ∧ tkDn tm_22 (6, [some (.inr (.inr (1, b, 0))), some (.inl l)], [.inl (I 1 b 7 l.toNatClampNeg)], (I, J, R)) _ from ⟨hl, ?_⟩)
  refine dn_ret0 rfl rfl rfl rfl ?_
  exact hQ
theorem sn_giftFrom {I : tkI} {J : tkJ} {R : Nat → Nat} {b : Nat} {Q : tkQ} {g : Int32} (hg : vp_in g 6) (hl : vp_in (I 1 b 9 g.toNatClampNeg) 60) (hQ : Q (some (.inl (I 1 b 4 (I 1 b 9 g.toNatClampNeg).toNatClampNeg))) (I, J, R)) : tkDn tm_23 (0, [some (.inr (.inr (1, b, 0))), some (.inl g)], [], (I, J, R)) Q := by
  refine dn_run 7 (show (vp_in g 6) ∧ (vp_in (I 1 b 9 g.toNatClampNeg) 60) ∧ tkDn tm_23 (11, [some (.inr (.inr (1, b, 0))), some (.inl g)], [.inl (I 1 b 4 ((I 1 b 9 g.toNatClampNeg).toNatClampNeg))], (I, J, R)) _ from ⟨hg, hl, ?_⟩)
  refine dn_ret0 rfl rfl rfl rfl ?_
  exact hQ
theorem sn_giftTo {I : tkI} {J : tkJ} {R : Nat → Nat} {b : Nat} {Q : tkQ} {g : Int32} (hg : vp_in g 6) (hl : vp_in (I 1 b 9 g.toNatClampNeg) 60) (hQ : Q (some (.inl (I 1 b 5 (I 1 b 9 g.toNatClampNeg).toNatClampNeg))) (I, J, R)) : tkDn tm_24 (0, [some (.inr (.inr (1, b, 0))), some (.inl g)], [], (I, J, R)) Q := by
  refine dn_run 7 (show (vp_in g 6) ∧ (vp_in (I 1 b 9 g.toNatClampNeg) 60) ∧ tkDn tm_24 (11, [some (.inr (.inr (1, b, 0))), some (.inl g)], [.inl (I 1 b 5 ((I 1 b 9 g.toNatClampNeg).toNatClampNeg))], (I, J, R)) _ from ⟨hg, hl, ?_⟩)
  refine dn_ret0 rfl rfl rfl rfl ?_
  exact hQ
theorem sn_giftLow {I : tkI} {J : tkJ} {R : Nat → Nat} {b : Nat} {Q : tkQ} {g : Int32} (hg : vp_in g 6) (hl : vp_in (I 1 b 9 g.toNatClampNeg) 60) (hQ : Q (some (.inl (I 1 b 6 (I 1 b 9 g.toNatClampNeg).toNatClampNeg))) (I, J, R)) : tkDn tm_25 (0, [some (.inr (.inr (1, b, 0))), some (.inl g)], [], (I, J, R)) Q := by
  refine dn_run 7 (show (vp_in g 6) ∧ (vp_in (I 1 b 9 g.toNatClampNeg) 60) ∧ tkDn tm_25 (11, [some (.inr (.inr (1, b, 0))), some (.inl g)], [.inl (I 1 b 6 ((I 1 b 9 g.toNatClampNeg).toNatClampNeg))], (I, J, R)) _ from ⟨hg, hl, ?_⟩)
  refine dn_ret0 rfl rfl rfl rfl ?_
  exact hQ
theorem sn_giftHigh {I : tkI} {J : tkJ} {R : Nat → Nat} {b : Nat} {Q : tkQ} {g : Int32} (hg : vp_in g 6) (hl : vp_in (I 1 b 9 g.toNatClampNeg) 60) (hQ : Q (some (.inl (I 1 b 7 (I 1 b 9 g.toNatClampNeg).toNatClampNeg))) (I, J, R)) : tkDn tm_26 (0, [some (.inr (.inr (1, b, 0))), some (.inl g)], [], (I, J, R)) Q := by
  refine dn_run 7 (show (vp_in g 6) ∧ (vp_in (I 1 b 9 g.toNatClampNeg) 60) ∧ tkDn tm_26 (11, [some (.inr (.inr (1, b, 0))), some (.inl g)], [.inl (I 1 b 7 ((I 1 b 9 g.toNatClampNeg).toNatClampNeg))], (I, J, R)) _ from ⟨hg, hl, ?_⟩)
  refine dn_ret0 rfl rfl rfl rfl ?_
  exact hQ
theorem sn_hasMoment {I : tkI} {J : tkJ} {R : Nat → Nat} {b : Nat} {Q : tkQ} {x : Int32} (hQ : Q (some (.inl (if 0 ≤ x ∧ x < I 1 b 0 0 then 1 else 0))) (I, J, R)) : tkDn tm_15 (0, [some (.inr (.inr (1, b, 0))), some (.inl x)], [], (I, J, R)) Q := by
  refine dn_run 1 (show tkDn tm_15 (1, [some (.inr (.inr (1, b, 0))), some (.inl x)], [.inl x], (I, J, R)) _ from ?_)
  refine dn_if rfl rfl rfl (fun (c1 : x < 0) => ?_) (fun (c1 : ¬ x < 0) => ?_)
  · show tkDn tm_15 (16, [some (.inr (.inr (1, b, 0))), some (.inl x)], [], (I, J, R)) _
    refine dn_run 1 (show tkDn tm_15 (17, [some (.inr (.inr (1, b, 0))), some (.inl x)], [.inl 0], (I, J, R)) _ from ?_)
    refine dn_retb rfl rfl rfl rfl (by decide) ?_
    rw [if_neg (fun q => absurd c1 (Int32.not_lt.mpr q.1))] at hQ; exact hQ
  · show tkDn tm_15 (4, [some (.inr (.inr (1, b, 0))), some (.inl x)], [], (I, J, R)) _
    refine dn_run 3 (show tkDn tm_15 (9, [some (.inr (.inr (1, b, 0))), some (.inl x)], [.inl (I 1 b 0 0), .inl x], (I, J, R)) _ from ?_)
    refine dn_if rfl rfl rfl (fun (c2 : (I 1 b 0 0) ≤ x) => ?_) (fun (c2 : ¬ (I 1 b 0 0) ≤ x) => ?_)
    · show tkDn tm_15 (16, [some (.inr (.inr (1, b, 0))), some (.inl x)], [], (I, J, R)) _
      refine dn_run 1 (show tkDn tm_15 (17, [some (.inr (.inr (1, b, 0))), some (.inl x)], [.inl 0], (I, J, R)) _ from ?_)
      refine dn_retb rfl rfl rfl rfl (by decide) ?_
      rw [if_neg (fun q => absurd q.2 (Int32.not_lt.mpr c2))] at hQ; exact hQ
    · show tkDn tm_15 (12, [some (.inr (.inr (1, b, 0))), some (.inl x)], [], (I, J, R)) _
      refine dn_run 2 (show tkDn tm_15 (17, [some (.inr (.inr (1, b, 0))), some (.inl x)], [.inl 1], (I, J, R)) _ from ?_)
      refine dn_retb rfl rfl rfl rfl (by decide) ?_
      rw [if_pos ⟨Int32.not_lt.mp c1, Int32.not_le.mp c2⟩] at hQ; exact hQ
theorem sn_hasLink {I : tkI} {J : tkJ} {R : Nat → Nat} {b : Nat} {Q : tkQ} {x : Int32} (hQ : Q (some (.inl (if 0 ≤ x ∧ x < I 1 b 0 1 then 1 else 0))) (I, J, R)) : tkDn tm_16 (0, [some (.inr (.inr (1, b, 0))), some (.inl x)], [], (I, J, R)) Q := by
  refine dn_run 1 (show tkDn tm_16 (1, [some (.inr (.inr (1, b, 0))), some (.inl x)], [.inl x], (I, J, R)) _ from ?_)
  refine dn_if rfl rfl rfl (fun (c1 : x < 0) => ?_) (fun (c1 : ¬ x < 0) => ?_)
  · show tkDn tm_16 (16, [some (.inr (.inr (1, b, 0))), some (.inl x)], [], (I, J, R)) _
    refine dn_run 1 (show tkDn tm_16 (17, [some (.inr (.inr (1, b, 0))), some (.inl x)], [.inl 0], (I, J, R)) _ from ?_)
    refine dn_retb rfl rfl rfl rfl (by decide) ?_
    rw [if_neg (fun q => absurd c1 (Int32.not_lt.mpr q.1))] at hQ; exact hQ
  · show tkDn tm_16 (4, [some (.inr (.inr (1, b, 0))), some (.inl x)], [], (I, J, R)) _
    refine dn_run 3 (show tkDn tm_16 (9, [some (.inr (.inr (1, b, 0))), some (.inl x)], [.inl (I 1 b 0 1), .inl x], (I, J, R)) _ from ?_)
    refine dn_if rfl rfl rfl (fun (c2 : (I 1 b 0 1) ≤ x) => ?_) (fun (c2 : ¬ (I 1 b 0 1) ≤ x) => ?_)
    · show tkDn tm_16 (16, [some (.inr (.inr (1, b, 0))), some (.inl x)], [], (I, J, R)) _
      refine dn_run 1 (show tkDn tm_16 (17, [some (.inr (.inr (1, b, 0))), some (.inl x)], [.inl 0], (I, J, R)) _ from ?_)
      refine dn_retb rfl rfl rfl rfl (by decide) ?_
      rw [if_neg (fun q => absurd q.2 (Int32.not_lt.mpr c2))] at hQ; exact hQ
    · show tkDn tm_16 (12, [some (.inr (.inr (1, b, 0))), some (.inl x)], [], (I, J, R)) _
      refine dn_run 2 (show tkDn tm_16 (17, [some (.inr (.inr (1, b, 0))), some (.inl x)], [.inl 1], (I, J, R)) _ from ?_)
      refine dn_retb rfl rfl rfl rfl (by decide) ?_
      rw [if_pos ⟨Int32.not_lt.mp c1, Int32.not_le.mp c2⟩] at hQ; exact hQ
theorem sn_hasGift {I : tkI} {J : tkJ} {R : Nat → Nat} {b : Nat} {Q : tkQ} {x : Int32} (hQ : Q (some (.inl (if 0 ≤ x ∧ x < I 1 b 0 2 then 1 else 0))) (I, J, R)) : tkDn tm_17 (0, [some (.inr (.inr (1, b, 0))), some (.inl x)], [], (I, J, R)) Q := by
  refine dn_run 1 (show tkDn tm_17 (1, [some (.inr (.inr (1, b, 0))), some (.inl x)], [.inl x], (I, J, R)) _ from ?_)
  refine dn_if rfl rfl rfl (fun (c1 : x < 0) => ?_) (fun (c1 : ¬ x < 0) => ?_)
  · show tkDn tm_17 (16, [some (.inr (.inr (1, b, 0))), some (.inl x)], [], (I, J, R)) _
    refine dn_run 1 (show tkDn tm_17 (17, [some (.inr (.inr (1, b, 0))), some (.inl x)], [.inl 0], (I, J, R)) _ from ?_)
    refine dn_retb rfl rfl rfl rfl (by decide) ?_
    rw [if_neg (fun q => absurd c1 (Int32.not_lt.mpr q.1))] at hQ; exact hQ
  · show tkDn tm_17 (4, [some (.inr (.inr (1, b, 0))), some (.inl x)], [], (I, J, R)) _
    refine dn_run 3 (show tkDn tm_17 (9, [some (.inr (.inr (1, b, 0))), some (.inl x)], [.inl (I 1 b 0 2), .inl x], (I, J, R)) _ from ?_)
    refine dn_if rfl rfl rfl (fun (c2 : (I 1 b 0 2) ≤ x) => ?_) (fun (c2 : ¬ (I 1 b 0 2) ≤ x) => ?_)
    · show tkDn tm_17 (16, [some (.inr (.inr (1, b, 0))), some (.inl x)], [], (I, J, R)) _
      refine dn_run 1 (show tkDn tm_17 (17, [some (.inr (.inr (1, b, 0))), some (.inl x)], [.inl 0], (I, J, R)) _ from ?_)
      refine dn_retb rfl rfl rfl rfl (by decide) ?_
      rw [if_neg (fun q => absurd q.2 (Int32.not_lt.mpr c2))] at hQ; exact hQ
    · show tkDn tm_17 (12, [some (.inr (.inr (1, b, 0))), some (.inl x)], [], (I, J, R)) _
      refine dn_run 2 (show tkDn tm_17 (17, [some (.inr (.inr (1, b, 0))), some (.inl x)], [.inl 1], (I, J, R)) _ from ?_)
      refine dn_retb rfl rfl rfl rfl (by decide) ?_
      rw [if_pos ⟨Int32.not_lt.mp c1, Int32.not_le.mp c2⟩] at hQ; exact hQ
end
section
/-! giftInto and its like, in numbers -/
theorem sn_giftInto_loop {I : tkI} {J : tkJ} {R : Nat → Nat} {b : Nat} {Q : tkQ} {S : tkS} (hP : NetP (I 1 b) S) (w : WF S) {m : Nat} (hm : m < 16) : ∀ n g, g + n = sG S → Q (some (.inl (if gtF S m n g < sG S then nI (gtF S m n g) else -9))) (I, J, R) → tkDn tm_28 (2, [some (.inr (.inr (1, b, 0))), some (.inl (nI m)), some (.inl (nI g))], [], (I, J, R)) Q := by
  have hG := hP.g
  have hG6 := w.2.2.1
  have hL60 := w.2.1
  have hM16 := w.1
  intro n
  induction n with
  | zero =>
    intro g hg hQ
    show tkDn tm_28 (2, [some (.inr (.inr (1, b, 0))), some (.inl (nI m)), some (.inl (nI g))], [], (I, J, R)) _
    refine dn_run 3 (show tkDn tm_28 (7, [some (.inr (.inr (1, b, 0))), some (.inl (nI m)), some (.inl (nI g))], [.inl (I 1 b 0 2), .inl (nI g)], (I, J, R)) _ from ?_)
    refine dn_if rfl rfl rfl (fun (c : (I 1 b 0 2) ≤ (nI g)) => ?_) (fun (c : ¬ (I 1 b 0 2) ≤ (nI g)) => ?_)
    · show tkDn tm_28 (33, [some (.inr (.inr (1, b, 0))), some (.inl (nI m)), some (.inl (nI g))], [], (I, J, R)) _
      refine dn_run 1 (show tkDn tm_28 (35, [some (.inr (.inr (1, b, 0))), some (.inl (nI m)), some (.inl (nI g))], [.inl (-9)], (I, J, R)) _ from ?_)
      refine dn_ret0 rfl rfl rfl rfl ?_
      rw [show gtF S m 0 g = g from rfl, if_neg (by omega)] at hQ
      exact hQ
    · exact absurd (by rw [hG]; exact nI_le (by omega) (by omega)) c
  | succ n ih =>
    intro g hg hQ
    have h1 := hP.gl w (g := g) (by omega)
    have hl := w.gl (g := g) (by omega)
    have h2 := hP.en w hl
    have h3 := w.eM hl
    show tkDn tm_28 (2, [some (.inr (.inr (1, b, 0))), some (.inl (nI m)), some (.inl (nI g))], [], (I, J, R)) _
    refine dn_run 3 (show tkDn tm_28 (7, [some (.inr (.inr (1, b, 0))), some (.inl (nI m)), some (.inl (nI g))], [.inl (I 1 b 0 2), .inl (nI g)], (I, J, R)) _ from ?_)
    refine dn_if rfl rfl rfl (fun (c : (I 1 b 0 2) ≤ (nI g)) => ?_) (fun (c : ¬ (I 1 b 0 2) ≤ (nI g)) => ?_)
    · exact absurd c (by rw [hG]; exact nI_ge (by omega) (by omega))
    · show tkDn tm_28 (10, [some (.inr (.inr (1, b, 0))), some (.inl (nI m)), some (.inl (nI g))], [], (I, J, R)) _
      refine dn_run 8 (show (vp_in (nI g) 6) ∧ (vp_in (I 1 b 9 ((nI g).toNatClampNeg)) 60) ∧ tkDn tm_28 (22, [some (.inr (.inr (1, b, 0))), some (.inl (nI m)), some (.inl (nI g))], [.inl (nI m), .inl (I 1 b 5 ((I 1 b 9 ((nI g).toNatClampNeg)).toNatClampNeg))], (I, J, R)) _ from ⟨vp_in_nI (by omega) (by omega), by rw [h1]; exact vp_in_nI (by omega) (by omega), ?_⟩)
      refine dn_if rfl rfl rfl (fun (c2 : ¬ (I 1 b 5 ((I 1 b 9 ((nI g).toNatClampNeg)).toNatClampNeg)) = (nI m)) => ?_) (fun (c2 : (I 1 b 5 ((I 1 b 9 ((nI g).toNatClampNeg)).toNatClampNeg)) = (nI m)) => ?_)
      · show tkDn tm_28 (27, [some (.inr (.inr (1, b, 0))), some (.inl (nI m)), some (.inl (nI g))], [], (I, J, R)) _
        refine dn_run 2 (show tkDn tm_28 (2, [some (.inr (.inr (1, b, 0))), some (.inl (nI m)), some (.inl ((nI g) + 1))], [], (I, J, R)) _ from ?_)
        rw [nI_1]
        rw [h1, h2] at c2
        have c3 : ¬ se S (sgl S g) = m := fun q => c2 (by rw [q])
        rw [show gtF S m (n + 1) g = gtF S m n (g + 1) from if_neg c3] at hQ
        exact ih (g + 1) (by omega) hQ
      · show tkDn tm_28 (25, [some (.inr (.inr (1, b, 0))), some (.inl (nI m)), some (.inl (nI g))], [], (I, J, R)) _
        refine dn_run 1 (show tkDn tm_28 (26, [some (.inr (.inr (1, b, 0))), some (.inl (nI m)), some (.inl (nI g))], [.inl (nI g)], (I, J, R)) _ from ?_)
        refine dn_ret0 rfl rfl rfl rfl ?_
        rw [h1, h2] at c2
        have c3 : se S (sgl S g) = m := (nI_eq (by omega) (by omega)).mp c2
        rw [show gtF S m (n + 1) g = g from if_pos c3, if_pos (by omega)] at hQ
        exact hQ
theorem sn_giftInto {I : tkI} {J : tkJ} {R : Nat → Nat} {b : Nat} {Q : tkQ} {S : tkS} (hP : NetP (I 1 b) S) (w : WF S) {m : Nat} (hm : m < 16) (hQ : Q (some (.inl (if gt S m < sG S then nI (gt S m) else -9))) (I, J, R)) : tkDn tm_28 (0, [some (.inr (.inr (1, b, 0))), some (.inl (nI m)), none], [], (I, J, R)) Q := by
  refine dn_run 2 (show tkDn tm_28 (2, [some (.inr (.inr (1, b, 0))), some (.inl (nI m)), some (.inl 0)], [], (I, J, R)) _ from ?_)
  exact sn_giftInto_loop hP w hm (sG S) 0 (Nat.zero_add _) hQ
theorem sm_giftTo_loop {I : tkI} {J : tkJ} {R : Nat → Nat} {Q : tkQ} {S : tkS} (hP : NetP (I 6 0) S) (w : WF S) {m : Nat} (hm : m < 16) : ∀ n g, g + n = sG S → Q (some (.inl (if gtF S m n g < sG S then nI (gtF S m n g) else -1))) (I, J, R) → tkDn tm_129 (2, [some (.inr (.inr (6, 0, 0))), some (.inl (nI m)), some (.inl (nI g))], [], (I, J, R)) Q := by
  have hG := hP.g
  have hG6 := w.2.2.1
  have hL60 := w.2.1
  have hM16 := w.1
  intro n
  induction n with
  | zero =>
    intro g hg hQ
    show tkDn tm_129 (2, [some (.inr (.inr (6, 0, 0))), some (.inl (nI m)), some (.inl (nI g))], [], (I, J, R)) _
    refine dn_run 3 (show tkDn tm_129 (7, [some (.inr (.inr (6, 0, 0))), some (.inl (nI m)), some (.inl (nI g))], [.inl (I 6 0 0 2), .inl (nI g)], (I, J, R)) _ from ?_)
    refine dn_if rfl rfl rfl (fun (c : (I 6 0 0 2) ≤ (nI g)) => ?_) (fun (c : ¬ (I 6 0 0 2) ≤ (nI g)) => ?_)
    · show tkDn tm_129 (33, [some (.inr (.inr (6, 0, 0))), some (.inl (nI m)), some (.inl (nI g))], [], (I, J, R)) _
      refine dn_run 1 (show tkDn tm_129 (34, [some (.inr (.inr (6, 0, 0))), some (.inl (nI m)), some (.inl (nI g))], [.inl (-1)], (I, J, R)) _ from ?_)
      refine dn_ret0 rfl rfl rfl rfl ?_
      rw [show gtF S m 0 g = g from rfl, if_neg (by omega)] at hQ
      exact hQ
    · exact absurd (by rw [hG]; exact nI_le (by omega) (by omega)) c
  | succ n ih =>
    intro g hg hQ
    have h1 := hP.gl w (g := g) (by omega)
    have hl := w.gl (g := g) (by omega)
    have h2 := hP.en w hl
    have h3 := w.eM hl
    show tkDn tm_129 (2, [some (.inr (.inr (6, 0, 0))), some (.inl (nI m)), some (.inl (nI g))], [], (I, J, R)) _
    refine dn_run 3 (show tkDn tm_129 (7, [some (.inr (.inr (6, 0, 0))), some (.inl (nI m)), some (.inl (nI g))], [.inl (I 6 0 0 2), .inl (nI g)], (I, J, R)) _ from ?_)
    refine dn_if rfl rfl rfl (fun (c : (I 6 0 0 2) ≤ (nI g)) => ?_) (fun (c : ¬ (I 6 0 0 2) ≤ (nI g)) => ?_)
    · exact absurd c (by rw [hG]; exact nI_ge (by omega) (by omega))
    · show tkDn tm_129 (10, [some (.inr (.inr (6, 0, 0))), some (.inl (nI m)), some (.inl (nI g))], [], (I, J, R)) _
      refine dn_run 8 (show (vp_in (nI g) 6) ∧ (vp_in (I 6 0 9 ((nI g).toNatClampNeg)) 60) ∧ tkDn tm_129 (22, [some (.inr (.inr (6, 0, 0))), some (.inl (nI m)), some (.inl (nI g))], [.inl (nI m), .inl (I 6 0 5 ((I 6 0 9 ((nI g).toNatClampNeg)).toNatClampNeg))], (I, J, R)) _ from ⟨vp_in_nI (by omega) (by omega), by rw [h1]; exact vp_in_nI (by omega) (by omega), ?_⟩)
      refine dn_if rfl rfl rfl (fun (c2 : ¬ (I 6 0 5 ((I 6 0 9 ((nI g).toNatClampNeg)).toNatClampNeg)) = (nI m)) => ?_) (fun (c2 : (I 6 0 5 ((I 6 0 9 ((nI g).toNatClampNeg)).toNatClampNeg)) = (nI m)) => ?_)
      · show tkDn tm_129 (27, [some (.inr (.inr (6, 0, 0))), some (.inl (nI m)), some (.inl (nI g))], [], (I, J, R)) _
        refine dn_run 2 (show tkDn tm_129 (2, [some (.inr (.inr (6, 0, 0))), some (.inl (nI m)), some (.inl ((nI g) + 1))], [], (I, J, R)) _ from ?_)
        rw [nI_1]
        rw [h1, h2] at c2
        have c3 : ¬ se S (sgl S g) = m := fun q => c2 (by rw [q])
        rw [show gtF S m (n + 1) g = gtF S m n (g + 1) from if_neg c3] at hQ
        exact ih (g + 1) (by omega) hQ
      · show tkDn tm_129 (25, [some (.inr (.inr (6, 0, 0))), some (.inl (nI m)), some (.inl (nI g))], [], (I, J, R)) _
        refine dn_run 1 (show tkDn tm_129 (26, [some (.inr (.inr (6, 0, 0))), some (.inl (nI m)), some (.inl (nI g))], [.inl (nI g)], (I, J, R)) _ from ?_)
        refine dn_ret0 rfl rfl rfl rfl ?_
        rw [h1, h2] at c2
        have c3 : se S (sgl S g) = m := (nI_eq (by omega) (by omega)).mp c2
        rw [show gtF S m (n + 1) g = g from if_pos c3, if_pos (by omega)] at hQ
        exact hQ
theorem sm_giftTo {I : tkI} {J : tkJ} {R : Nat → Nat} {Q : tkQ} {S : tkS} (hP : NetP (I 6 0) S) (w : WF S) {m : Nat} (hm : m < 16) (hQ : Q (some (.inl (if gt S m < sG S then nI (gt S m) else -1))) (I, J, R)) : tkDn tm_129 (0, [some (.inr (.inr (6, 0, 0))), some (.inl (nI m)), none], [], (I, J, R)) Q := by
  refine dn_run 2 (show tkDn tm_129 (2, [some (.inr (.inr (6, 0, 0))), some (.inl (nI m)), some (.inl 0)], [], (I, J, R)) _ from ?_)
  exact sm_giftTo_loop hP w hm (sG S) 0 (Nat.zero_add _) hQ
theorem nI_n9 {n : Nat} (h : n < 1000) : ¬ nI n = -9 := fun q => by
  have h1 := congrArg Int32.toInt q
  rw [nI_toInt (by omega)] at h1
  have h2 : ((-9 : Int32)).toInt = -9 := by decide
  rw [h2] at h1
  omega
theorem sn_isGiven {I : tkI} {J : tkJ} {R : Nat → Nat} {b : Nat} {Q : tkQ} {S : tkS} (hP : NetP (I 1 b) S) (w : WF S) {m : Nat} (hm : m < 16) (hQ : Q (some (.inl (if gt S m < sG S then 1 else 0))) (I, J, R)) : tkDn tm_29 (0, [some (.inr (.inr (1, b, 0))), some (.inl (nI m))], [], (I, J, R)) Q := by
  have hG6 := w.2.2.1
  refine dn_run 2 (show tkDn tm_29 (2, [some (.inr (.inr (1, b, 0))), some (.inl (nI m))], [.inl (nI m), .inr (.inr (1, b, 0))], (I, J, R)) _ from ?_)
  refine dn_call rfl rfl rfl rfl rfl (sn_giftInto hP w hm ?_)
  show tkDn tm_29 (5, [some (.inr (.inr (1, b, 0))), some (.inl (nI m))], [.inl (if gt S m < sG S then nI (gt S m) else -9)], (I, J, R)) _
  refine dn_run 1 (show tkDn tm_29 (7, [some (.inr (.inr (1, b, 0))), some (.inl (nI m))], [.inl (-9), .inl (if gt S m < sG S then nI (gt S m) else -9)], (I, J, R)) _ from ?_)
  refine dn_if rfl rfl rfl (fun (c : (if gt S m < sG S then nI (gt S m) else -9) = (-9)) => ?_) (fun (c : ¬ (if gt S m < sG S then nI (gt S m) else -9) = (-9)) => ?_)
  · show tkDn tm_29 (14, [some (.inr (.inr (1, b, 0))), some (.inl (nI m))], [], (I, J, R)) _
    refine dn_run 1 (show tkDn tm_29 (15, [some (.inr (.inr (1, b, 0))), some (.inl (nI m))], [.inl 0], (I, J, R)) _ from ?_)
    refine dn_retb rfl rfl rfl rfl (by decide) ?_
    rw [if_neg (fun q => by rw [if_pos q] at c; exact nI_n9 (by omega) c)] at hQ
    exact hQ
  · show tkDn tm_29 (10, [some (.inr (.inr (1, b, 0))), some (.inl (nI m))], [], (I, J, R)) _
    refine dn_run 2 (show tkDn tm_29 (15, [some (.inr (.inr (1, b, 0))), some (.inl (nI m))], [.inl 1], (I, J, R)) _ from ?_)
    refine dn_retb rfl rfl rfl rfl (by decide) ?_
    rw [if_pos (by by_cases q : gt S m < sG S; exact q; exact absurd (if_neg q) c)] at hQ
    exact hQ
end
section
/-! what the calls that change the net do, in numbers -/
abbrev hasM (S : tkS) (x : Int32) : Prop := 0 ≤ x ∧ x < nI (sM S)
abbrev fitB (l h f : Int32) : Prop := f ≤ l ∧ l ≤ h ∧ h ≤ 100000
def rfF (S : tkS) (a b l h f : Int32) : Int32 := if ¬ (hasM S a ∧ hasM S b) then -11 else if a = b then -13 else if fitB l h f then 0 else -12
def app (S : tkS) (a b : Nat) (l h g : Int32) : tkS := (sM S, sL S + 1, sG S, tk_u1 (sf S) (sL S) a, tk_u1 (se S) (sL S) b, tk_u1 (slo S) (sL S) l, tk_u1 (shi S) (sL S) h, tk_u1 (sgn S) (sL S) g, sgl S)
def addG (S : tkS) : tkS := (sM S, sL S, sG S + 1, sf S, se S, slo S, shi S, sgn S, tk_u1 (sgl S) (sG S) (sL S))
def opMom (S : tkS) (n : Int32) : Int32 × tkS := if n < 1 ∨ 16 < n then (-12, S) else if 16 < nI (sM S) + n then (-14, S) else (nI (sM S + n.toNatClampNeg), (sM S + n.toNatClampNeg, S.2))
def opWish (S : tkS) (a b l h : Int32) : Int32 × tkS := if rfF S a b l h (-100000) = 0 then (if 60 ≤ sL S then (-14, S) else (nI (sL S), app S a.toNatClampNeg b.toNatClampNeg l h (-9))) else (rfF S a b l h (-100000), S)
/-- whether k is met going back from m, n steps at most -/
def cfF (S : tkS) (k : Nat) : Nat → Nat → Bool
  | 0, _ => true
  | n + 1, m => if m = k then true else if gt S m < sG S then cfF S k n (sf S (sgl S (gt S m))) else false
def opGift (S : tkS) (a b l h : Int32) : Int32 × tkS := if rfF S a b l h 1 = 0 then (if gt S b.toNatClampNeg < sG S ∨ cfF S b.toNatClampNeg 7 a.toNatClampNeg = true then (-13, S) else if 60 ≤ sL S ∨ 6 ≤ sG S then (-14, S) else (nI (sL S), app (addG S) a.toNatClampNeg b.toNatClampNeg l h (nI (sG S)))) else (rfF S a b l h 1, S)
def opUndo (S : tkS) : Int32 × tkS := if sL S = 0 then (-13, S) else (nI (sL S - 1), (sM S, sL S - 1, (if sgn S (sL S - 1) = -9 then sG S else sG S - 1), S.2.2.2))
def opTight (S : tkS) (k l h : Int32) : Int32 × tkS := if 0 ≤ k ∧ k < nI (sL S) then (if fitB l h (if sgn S k.toNatClampNeg = -9 then -100000 else 1) then (1, (sM S, sL S, sG S, sf S, se S, tk_u1 (slo S) k.toNatClampNeg l, tk_u1 (shi S) k.toNatClampNeg h, sgn S, sgl S)) else (-12, S)) else (-11, S)
theorem hasM_nat {S : tkS} (w : sM S ≤ 16) {x : Int32} (h : hasM S x) : ∃ j, j < sM S ∧ x = nI j ∧ x.toNatClampNeg = j := by
  obtain ⟨h1, h2⟩ := h
  obtain ⟨j, hj, rfl⟩ := nI_of (Int32.not_lt.mpr h1)
  have := (nI_ltI hj (by omega)).mp h2
  exact ⟨j, this, rfl, nI_clamp hj⟩
theorem tk_so_id {α : Type} {I : Nat → Nat → α} {ci b : Nat} : tk_so I ci b (I ci b) = I := by
  funext a d
  by_cases e : a = ci ∧ d = b
  · obtain ⟨rfl, rfl⟩ := e; rw [tk_so_same]
  · rw [tk_so_ne e]
theorem tk_so_so {α : Type} {I : Nat → Nat → α} {ci b : Nat} {N N' : α} : tk_so (tk_so I ci b N) ci b N' = tk_so I ci b N' := by
  funext a d
  by_cases e : a = ci ∧ d = b
  · obtain ⟨rfl, rfl⟩ := e; rw [tk_so_same, tk_so_same]
  · rw [tk_so_ne e, tk_so_ne e, tk_so_ne e]
theorem tk_u2_0 {α : Type} {N : Nat → Nat → α} {s k a j : Nat} {x : α} (h : ¬ (a = s ∧ j = k)) : tk_u2 N s k x a j = N a j := by
  by_cases e : a = s
  · subst e
    rw [tk_u2_at, tk_u1_ne (fun q => h ⟨rfl, q⟩)]
  · rw [tk_u2_ne e]
theorem tk_u2_1 {α : Type} {N : Nat → Nat → α} {s k : Nat} {x : α} : tk_u2 N s k x s k = x := by rw [tk_u2_at, tk_u1_same]
theorem NetP_app {X : Nat → Nat → Int32} {S : tkS} (h : NetP X S) {a b k : Nat} {l hh g y : Int32} (hk : k = sL S) (hy : y = nI (sL S + 1)) : NetP (tk_u2 (tk_u2 (tk_u2 (tk_u2 (tk_u2 (tk_u2 X 4 k (nI a)) 5 k (nI b)) 6 k l) 7 k hh) 8 k g) 0 1 y) (app S a b l hh g) := by
  subst hk
  subst hy
  obtain ⟨h1, h2, h3, h4, h5⟩ := h
  refine ⟨?_, ?_, ?_, fun j hj => ?_, fun q hq => ?_⟩
  · simp [tk_u2_0]; exact h1
  · simp [tk_u2_1]; rfl
  · simp [tk_u2_0]; exact h3
  · have hj : j < sL S + 1 := hj
    by_cases e : j = sL S
    · subst e
      simp [tk_u2_0, tk_u2_1, app, sf, se, slo, shi, sgn, tk_u1_same]
    · obtain ⟨g1, g2, g3, g4, g5⟩ := h4 j (by omega)
      simp [tk_u2_0, app, sf, se, slo, shi, sgn, tk_u1_ne e, e]
      exact ⟨g1, g2, g3, g4, g5⟩
  · simp [tk_u2_0]; exact h5 q hq
theorem NetP_addG {X : Nat → Nat → Int32} {S : tkS} (h : NetP X S) {k : Nat} {x y : Int32} (hk : k = sG S) (hx : x = nI (sL S)) (hy : y = nI (sG S + 1)) : NetP (tk_u2 (tk_u2 X 9 k x) 0 2 y) (addG S) := by
  subst hk
  subst hx
  subst hy
  obtain ⟨h1, h2, h3, h4, h5⟩ := h
  refine ⟨?_, ?_, ?_, fun j hj => ?_, fun q hq => ?_⟩
  · simp [tk_u2_0]; exact h1
  · simp [tk_u2_0]; exact h2
  · simp [tk_u2_1]; rfl
  · have := h4 j hj
    simp [tk_u2_0]; exact this
  · have hq : q < sG S + 1 := hq
    by_cases e : q = sG S
    · subst e
      simp [tk_u2_0, tk_u2_1, addG, sgl, tk_u1_same]
    · have := h5 q (by omega)
      simp [tk_u2_0, e, addG, sgl, tk_u1_ne e]; exact this
theorem nI_sub1 {n : Nat} : nI (n + 1) - 1 = nI n := nI_pred n
theorem dn_sw {M : tkM} {pc t n : Nat} {L : tkL} {r : List tkV} {w : tkW} {Q : tkQ} {x : Int32} {dflt lo hi : Int} {offs : Array Int} (ha : tk_at M.2.2.2.2 pc = some (.tableswitch dflt lo hi offs, n)) (hs : (hi - lo + 1).toNat = offs.size ∧ lo ≤ hi) (ht : (pc : Int) + tk_swo dflt lo hi offs x = (t : Int)) (k : tkDn M (t, L, r, w) Q) : tkDn M (pc, L, .inl x :: r, w) Q := by
  refine dn_run 1 ?_
  unfold tk_stps
  dsimp only
  rw [ha]
  show ((hi - lo + 1).toNat = offs.size ∧ lo ≤ hi ∧ 0 ≤ (pc : Int) + tk_swo dflt lo hi offs x) ∧ tkDn M (((pc : Int) + tk_swo dflt lo hi offs x).toNat, L, r, w) Q
  rw [ht]
  exact ⟨⟨hs.1, hs.2, Int.natCast_nonneg t⟩, k⟩
theorem sw_out {dflt lo hi : Int} {offs : Array Int} {x : Int32} (h : x.toInt < lo ∨ hi < x.toInt) : tk_swo dflt lo hi offs x = dflt := by unfold tk_swo; rw [if_pos h]
theorem rfF_0 {S : tkS} {a b l h f : Int32} (q : rfF S a b l h f = 0) : hasM S a ∧ hasM S b ∧ ¬ a = b ∧ fitB l h f := by
  unfold rfF at q
  split at q
  · exact absurd q (by decide)
  · rename_i h1
    split at q
    · exact absurd q (by decide)
    · rename_i h2
      split at q
      · rename_i h3
        have h1' : hasM S a ∧ hasM S b := Classical.not_not.mp h1
        exact ⟨h1'.1, h1'.2, h2, h3⟩
      · exact absurd q (by decide)
def lnkF (S : tkS) (l what : Int32) : Int32 := if 0 ≤ l ∧ l < nI (sL S) then (if what = 0 then nI (sf S l.toNatClampNeg) else if what = 1 then nI (se S l.toNatClampNeg) else if what = 2 then slo S l.toNatClampNeg else if what = 3 then shi S l.toNatClampNeg else if what = 4 then sgn S l.toNatClampNeg else -12) else -11
theorem hasL_nat {S : tkS} (w : sL S ≤ 60) {x : Int32} (h : 0 ≤ x ∧ x < nI (sL S)) : ∃ j, j < sL S ∧ x = nI j := by
  obtain ⟨h1, h2⟩ := h
  obtain ⟨j, hj, rfl⟩ := nI_of (Int32.not_lt.mpr h1)
  exact ⟨j, (nI_ltI hj (by omega)).mp h2, rfl⟩
theorem NetP_undo {X : Nat → Nat → Int32} {S : tkS} (h : NetP X S) {y z : Int32} {G : Nat} (hG : G ≤ sG S) (h0 : 0 < sL S) (hy : y = nI (sL S - 1)) (hz : z = nI G) : NetP (tk_u2 (tk_u2 X 0 1 y) 0 2 z) (sM S, sL S - 1, G, S.2.2.2) := by
  subst hy
  subst hz
  obtain ⟨h1, h2, h3, h4, h5⟩ := h
  refine ⟨?_, ?_, ?_, fun j hj => ?_, fun q hq => ?_⟩
  · simp [tk_u2_0]; exact h1
  · simp [tk_u2_0, tk_u2_1]; rfl
  · simp [tk_u2_1]; rfl
  · have hj : j < sL S - 1 := hj
    have := h4 j (by omega)
    simp [tk_u2_0]; exact this
  · have hq : q < G := hq
    have := h5 q (by omega)
    simp [tk_u2_0]; exact this
theorem NetP_undo1 {X : Nat → Nat → Int32} {S : tkS} (h : NetP X S) {y : Int32} (h0 : 0 < sL S) (hy : y = nI (sL S - 1)) : NetP (tk_u2 X 0 1 y) (sM S, sL S - 1, sG S, S.2.2.2) := by
  subst hy
  obtain ⟨h1, h2, h3, h4, h5⟩ := h
  refine ⟨?_, ?_, ?_, fun j hj => ?_, fun q hq => ?_⟩
  · simp [tk_u2_0]; exact h1
  · simp [tk_u2_1]; rfl
  · simp [tk_u2_0]; exact h3
  · have hj : j < sL S - 1 := hj
    have := h4 j (by omega)
    simp [tk_u2_0]; exact this
  · have := h5 q hq
    simp [tk_u2_0]; exact this
theorem NetP_tight {X : Nat → Nat → Int32} {S : tkS} (h : NetP X S) {k : Nat} {l hh : Int32} : NetP (tk_u2 (tk_u2 X 6 k l) 7 k hh) (sM S, sL S, sG S, sf S, se S, tk_u1 (slo S) k l, tk_u1 (shi S) k hh, sgn S, sgl S) := by
  obtain ⟨h1, h2, h3, h4, h5⟩ := h
  refine ⟨?_, ?_, ?_, fun j hj => ?_, fun q hq => ?_⟩
  · simp [tk_u2_0]; exact h1
  · simp [tk_u2_0]; exact h2
  · simp [tk_u2_0]; exact h3
  · obtain ⟨g1, g2, g3, g4, g5⟩ := h4 j hj
    by_cases e : j = k
    · subst e
      simp [tk_u2_0, tk_u2_1, slo, shi, sgn, sf, se, tk_u1_same]
      exact ⟨g1, g2, g5⟩
    · simp [tk_u2_0, e, slo, shi, sgn, sf, se, tk_u1_ne e]
      exact ⟨g1, g2, g3, g4, g5⟩
  · have := h5 q hq
    simp [tk_u2_0]; exact this
end
section
/-! Net: what changes it -/
theorem sn_fits {I : tkI} {J : tkJ} {R : Nat → Nat} {Q : tkQ} {l h f : Int32} (hQ : Q (some (.inl (if fitB l h f then 1 else 0))) (I, J, R)) : tkDn tm_38 (0, [some (.inl l), some (.inl h), some (.inl f)], [], (I, J, R)) Q := by
  refine dn_run 2 (show tkDn tm_38 (2, [some (.inl l), some (.inl h), some (.inl f)], [.inl f, .inl l], (I, J, R)) _ from ?_)
  refine dn_if rfl rfl rfl (fun (c1 : l < f) => ?_) (fun (c1 : ¬ l < f) => ?_)
  · show tkDn tm_38 (20, [some (.inl l), some (.inl h), some (.inl f)], [], (I, J, R)) _
    refine dn_run 1 (show tkDn tm_38 (21, [some (.inl l), some (.inl h), some (.inl f)], [.inl 0], (I, J, R)) _ from ?_)
    refine dn_retb rfl rfl rfl rfl (by decide) ?_
    rw [if_neg (fun q => absurd q.1 (Int32.not_le.mpr c1))] at hQ
    exact hQ
  · show tkDn tm_38 (5, [some (.inl l), some (.inl h), some (.inl f)], [], (I, J, R)) _
    refine dn_run 2 (show tkDn tm_38 (7, [some (.inl l), some (.inl h), some (.inl f)], [.inl h, .inl l], (I, J, R)) _ from ?_)
    refine dn_if rfl rfl rfl (fun (c2 : h < l) => ?_) (fun (c2 : ¬ h < l) => ?_)
    · show tkDn tm_38 (20, [some (.inl l), some (.inl h), some (.inl f)], [], (I, J, R)) _
      refine dn_run 1 (show tkDn tm_38 (21, [some (.inl l), some (.inl h), some (.inl f)], [.inl 0], (I, J, R)) _ from ?_)
      refine dn_retb rfl rfl rfl rfl (by decide) ?_
      rw [if_neg (fun q => absurd q.2.1 (Int32.not_le.mpr c2))] at hQ
      exact hQ
    · show tkDn tm_38 (10, [some (.inl l), some (.inl h), some (.inl f)], [], (I, J, R)) _
      refine dn_run 2 (show tkDn tm_38 (13, [some (.inl l), some (.inl h), some (.inl f)], [.inl 100000, .inl h], (I, J, R)) _ from ?_)
      refine dn_if rfl rfl rfl (fun (c3 : 100000 < h) => ?_) (fun (c3 : ¬ 100000 < h) => ?_)
      · show tkDn tm_38 (20, [some (.inl l), some (.inl h), some (.inl f)], [], (I, J, R)) _
        refine dn_run 1 (show tkDn tm_38 (21, [some (.inl l), some (.inl h), some (.inl f)], [.inl 0], (I, J, R)) _ from ?_)
        refine dn_retb rfl rfl rfl rfl (by decide) ?_
        rw [if_neg (fun q => absurd q.2.2 (Int32.not_le.mpr c3))] at hQ
        exact hQ
      · show tkDn tm_38 (16, [some (.inl l), some (.inl h), some (.inl f)], [], (I, J, R)) _
        refine dn_run 2 (show tkDn tm_38 (21, [some (.inl l), some (.inl h), some (.inl f)], [.inl 1], (I, J, R)) _ from ?_)
        refine dn_retb rfl rfl rfl rfl (by decide) ?_
        rw [if_pos ⟨Int32.not_lt.mp c1, Int32.not_lt.mp c2, Int32.not_lt.mp c3⟩] at hQ
        exact hQ
theorem sn_refuseLink {I : tkI} {J : tkJ} {R : Nat → Nat} {b : Nat} {Q : tkQ} {S : tkS} (hP : NetP (I 1 b) S) {u v l h f : Int32} (hQ : Q (some (.inl (rfF S u v l h f))) (I, J, R)) : tkDn tm_37 (0, [some (.inr (.inr (1, b, 0))), some (.inl u), some (.inl v), some (.inl l), some (.inl h), some (.inl f)], [], (I, J, R)) Q := by
  have hM := hP.m
  refine dn_run 2 (show tkDn tm_37 (2, [some (.inr (.inr (1, b, 0))), some (.inl u), some (.inl v), some (.inl l), some (.inl h), some (.inl f)], [.inl u, .inr (.inr (1, b, 0))], (I, J, R)) _ from ?_)
  refine dn_call rfl rfl rfl rfl rfl (sn_hasMoment ?_)
  show tkDn tm_37 (5, [some (.inr (.inr (1, b, 0))), some (.inl u), some (.inl v), some (.inl l), some (.inl h), some (.inl f)], [.inl (if 0 ≤ u ∧ u < I 1 b 0 0 then 1 else 0)], (I, J, R)) _
  refine dn_if rfl rfl rfl (fun (c1 : (if 0 ≤ u ∧ u < I 1 b 0 0 then 1 else 0) = 0) => ?_) (fun (c1 : ¬ (if 0 ≤ u ∧ u < I 1 b 0 0 then 1 else 0) = 0) => ?_)
  · show tkDn tm_37 (16, [some (.inr (.inr (1, b, 0))), some (.inl u), some (.inl v), some (.inl l), some (.inl h), some (.inl f)], [], (I, J, R)) _
    refine dn_run 1 (show tkDn tm_37 (18, [some (.inr (.inr (1, b, 0))), some (.inl u), some (.inl v), some (.inl l), some (.inl h), some (.inl f)], [.inl (-11)], (I, J, R)) _ from ?_)
    refine dn_ret0 rfl rfl rfl rfl ?_
    rw [show rfF S u v l h f = -11 by unfold rfF; rw [if_pos (fun q => by rw [hM, if_pos q.1] at c1; exact absurd c1 (by decide))]] at hQ
    exact hQ
  · show tkDn tm_37 (8, [some (.inr (.inr (1, b, 0))), some (.inl u), some (.inl v), some (.inl l), some (.inl h), some (.inl f)], [], (I, J, R)) _
    have k1 : hasM S u := by rw [hM] at c1; by_cases q : hasM S u; exact q; exact absurd (if_neg q) c1
    refine dn_run 2 (show tkDn tm_37 (10, [some (.inr (.inr (1, b, 0))), some (.inl u), some (.inl v), some (.inl l), some (.inl h), some (.inl f)], [.inl v, .inr (.inr (1, b, 0))], (I, J, R)) _ from ?_)
    refine dn_call rfl rfl rfl rfl rfl (sn_hasMoment ?_)
    show tkDn tm_37 (13, [some (.inr (.inr (1, b, 0))), some (.inl u), some (.inl v), some (.inl l), some (.inl h), some (.inl f)], [.inl (if 0 ≤ v ∧ v < I 1 b 0 0 then 1 else 0)], (I, J, R)) _
    refine dn_if rfl rfl rfl (fun (c2 : ¬ (if 0 ≤ v ∧ v < I 1 b 0 0 then 1 else 0) = 0) => ?_) (fun (c2 : (if 0 ≤ v ∧ v < I 1 b 0 0 then 1 else 0) = 0) => ?_)
    · show tkDn tm_37 (19, [some (.inr (.inr (1, b, 0))), some (.inl u), some (.inl v), some (.inl l), some (.inl h), some (.inl f)], [], (I, J, R)) _
      have k2 : hasM S v := by rw [hM] at c2; by_cases q : hasM S v; exact q; exact absurd (if_neg q) c2
      refine dn_run 2 (show tkDn tm_37 (21, [some (.inr (.inr (1, b, 0))), some (.inl u), some (.inl v), some (.inl l), some (.inl h), some (.inl f)], [.inl v, .inl u], (I, J, R)) _ from ?_)
      refine dn_if rfl rfl rfl (fun (c3 : ¬ u = v) => ?_) (fun (c3 : u = v) => ?_)
      · show tkDn tm_37 (27, [some (.inr (.inr (1, b, 0))), some (.inl u), some (.inl v), some (.inl l), some (.inl h), some (.inl f)], [], (I, J, R)) _
        refine dn_run 3 (show tkDn tm_37 (32, [some (.inr (.inr (1, b, 0))), some (.inl u), some (.inl v), some (.inl l), some (.inl h), some (.inl f)], [.inl f, .inl h, .inl l], (I, J, R)) _ from ?_)
        refine dn_call rfl rfl rfl rfl rfl (sn_fits ?_)
        show tkDn tm_37 (35, [some (.inr (.inr (1, b, 0))), some (.inl u), some (.inl v), some (.inl l), some (.inl h), some (.inl f)], [.inl (if fitB l h f then 1 else 0)], (I, J, R)) _
        refine dn_if rfl rfl rfl (fun (c4 : (if fitB l h f then 1 else 0) = 0) => ?_) (fun (c4 : ¬ (if fitB l h f then 1 else 0) = 0) => ?_)
        · show tkDn tm_37 (42, [some (.inr (.inr (1, b, 0))), some (.inl u), some (.inl v), some (.inl l), some (.inl h), some (.inl f)], [], (I, J, R)) _
          refine dn_run 1 (show tkDn tm_37 (44, [some (.inr (.inr (1, b, 0))), some (.inl u), some (.inl v), some (.inl l), some (.inl h), some (.inl f)], [.inl (-12)], (I, J, R)) _ from ?_)
          refine dn_ret0 rfl rfl rfl rfl ?_
          rw [show rfF S u v l h f = -12 by unfold rfF; rw [if_neg (fun q => q ⟨k1, k2⟩), if_neg c3, if_neg (fun q => by rw [if_pos q] at c4; exact absurd c4 (by decide))]] at hQ
          exact hQ
        · show tkDn tm_37 (38, [some (.inr (.inr (1, b, 0))), some (.inl u), some (.inl v), some (.inl l), some (.inl h), some (.inl f)], [], (I, J, R)) _
          refine dn_run 2 (show tkDn tm_37 (44, [some (.inr (.inr (1, b, 0))), some (.inl u), some (.inl v), some (.inl l), some (.inl h), some (.inl f)], [.inl 0], (I, J, R)) _ from ?_)
          refine dn_ret0 rfl rfl rfl rfl ?_
          rw [show rfF S u v l h f = 0 by unfold rfF; rw [if_neg (fun q => q ⟨k1, k2⟩), if_neg c3, if_pos (by by_cases q : fitB l h f; exact q; exact absurd (if_neg q) c4)]] at hQ
          exact hQ
      · show tkDn tm_37 (24, [some (.inr (.inr (1, b, 0))), some (.inl u), some (.inl v), some (.inl l), some (.inl h), some (.inl f)], [], (I, J, R)) _
        refine dn_run 1 (show tkDn tm_37 (26, [some (.inr (.inr (1, b, 0))), some (.inl u), some (.inl v), some (.inl l), some (.inl h), some (.inl f)], [.inl (-13)], (I, J, R)) _ from ?_)
        refine dn_ret0 rfl rfl rfl rfl ?_
        rw [show rfF S u v l h f = -13 by unfold rfF; rw [if_neg (fun q => q ⟨k1, k2⟩), if_pos c3]] at hQ
        exact hQ
    · show tkDn tm_37 (16, [some (.inr (.inr (1, b, 0))), some (.inl u), some (.inl v), some (.inl l), some (.inl h), some (.inl f)], [], (I, J, R)) _
      refine dn_run 1 (show tkDn tm_37 (18, [some (.inr (.inr (1, b, 0))), some (.inl u), some (.inl v), some (.inl l), some (.inl h), some (.inl f)], [.inl (-11)], (I, J, R)) _ from ?_)
      refine dn_ret0 rfl rfl rfl rfl ?_
      rw [show rfF S u v l h f = -11 by unfold rfF; rw [if_pos (fun q => by rw [hM, if_pos q.2] at c2; exact absurd c2 (by decide))]] at hQ
      exact hQ
theorem sn_append0 {I : tkI} {J : tkJ} {R : Nat → Nat} {Q : tkQ} {S : tkS} (hP : NetP (I 1 0) S) {u v : Nat} {l h g : Int32} (hlt : sL S < 60) (hQ : ∀ X, NetP X (app S u v l h g) → Q (some (.inl (nI (sL S)))) (tk_so I 1 0 X, J, R)) : tkDn tm_36 (0, [some (.inr (.inr (1, 0, 0))), some (.inl (nI u)), some (.inl (nI v)), some (.inl l), some (.inl h), some (.inl g)], [], (I, J, R)) Q := by
  have hL := hP.l
  have hin : vp_in (I 1 0 0 1) 60 := by rw [hL]; exact vp_in_nI hlt (by omega)
  refine dn_run 40 (show (vp_in (I 1 0 0 1) 60) ∧ (vp_in (I 1 0 0 1) 60) ∧ (vp_in (I 1 0 0 1) 60) ∧ (vp_in (I 1 0 0 1) 60) ∧ (vp_in (I 1 0 0 1) 60) ∧ tkDn tm_36 (68, [some (.inr (.inr (1, 0, 0))), some (.inl (nI u)), some (.inl (nI v)), some (.inl l), some (.inl h), some (.inl g)], [.inl (((I 1 0 0 1) + 1) - 1)], (tk_so (tk_so (tk_so (tk_so (tk_so (tk_so I 1 0 (tk_u2 (I 1 0) 4 ((I 1 0 0 1).toNatClampNeg) (nI u))) 1 0 (tk_u2 (tk_u2 (I 1 0) 4 ((I 1 0 0 1).toNatClampNeg) (nI u)) 5 ((I 1 0 0 1).toNatClampNeg) (nI v))) 1 0 (tk_u2 (tk_u2 (tk_u2 (I 1 0) 4 ((I 1 0 0 1).toNatClampNeg) (nI u)) 5 ((I 1 0 0 1).toNatClampNeg) (nI v)) 6 ((I 1 0 0 1).toNatClampNeg) l)) 1 0 (tk_u2 (tk_u2 (tk_u2 (tk_u2 (I 1 0) 4 ((I 1 0 0 1).toNatClampNeg) (nI u)) 5 ((I 1 0 0 1).toNatClampNeg) (nI v)) 6 ((I 1 0 0 1).toNatClampNeg) l) 7 ((I 1 0 0 1).toNatClampNeg) h)) 1 0 (tk_u2 (tk_u2 (tk_u2 (tk_u2 (tk_u2 (I 1 0) 4 ((I 1 0 0 1).toNatClampNeg) (nI u)) 5 ((I 1 0 0 1).toNatClampNeg) (nI v)) 6 ((I 1 0 0 1).toNatClampNeg) l) 7 ((I 1 0 0 1).toNatClampNeg) h) 8 ((I 1 0 0 1).toNatClampNeg) g)) 1 0 (tk_u2 (tk_u2 (tk_u2 (tk_u2 (tk_u2 (tk_u2 (I 1 0) 4 ((I 1 0 0 1).toNatClampNeg) (nI u)) 5 ((I 1 0 0 1).toNatClampNeg) (nI v)) 6 ((I 1 0 0 1).toNatClampNeg) l) 7 ((I 1 0 0 1).toNatClampNeg) h) 8 ((I 1 0 0 1).toNatClampNeg) g) 0 1 ((I 1 0 0 1) + 1)), J, R)) _ from ⟨hin, hin, hin, hin, hin, ?_⟩)
  rw [tk_so_so, tk_so_so, tk_so_so, tk_so_so, tk_so_so]
  refine dn_ret0 rfl rfl rfl rfl ?_
  rw [show I 1 0 0 1 + 1 - 1 = nI (sL S) by rw [hL]; rw [nI_1, nI_sub1]]
  refine hQ _ (NetP_app hP (by rw [hL, nI_clamp (by omega)]) (by rw [hL]; rw [nI_1]))
theorem sn_append1 {I : tkI} {J : tkJ} {R : Nat → Nat} {Q : tkQ} {S : tkS} (hP : NetP (I 1 1) S) {u v : Nat} {l h g : Int32} (hlt : sL S < 60) (hQ : ∀ X, NetP X (app S u v l h g) → Q (some (.inl (nI (sL S)))) (tk_so I 1 1 X, J, R)) : tkDn tm_36 (0, [some (.inr (.inr (1, 1, 0))), some (.inl (nI u)), some (.inl (nI v)), some (.inl l), some (.inl h), some (.inl g)], [], (I, J, R)) Q := by
  have hL := hP.l
  have hin : vp_in (I 1 1 0 1) 60 := by rw [hL]; exact vp_in_nI hlt (by omega)
  refine dn_run 40 (show (vp_in (I 1 1 0 1) 60) ∧ (vp_in (I 1 1 0 1) 60) ∧ (vp_in (I 1 1 0 1) 60) ∧ (vp_in (I 1 1 0 1) 60) ∧ (vp_in (I 1 1 0 1) 60) ∧ tkDn tm_36 (68, [some (.inr (.inr (1, 1, 0))), some (.inl (nI u)), some (.inl (nI v)), some (.inl l), some (.inl h), some (.inl g)], [.inl (((I 1 1 0 1) + 1) - 1)], (tk_so (tk_so (tk_so (tk_so (tk_so (tk_so I 1 1 (tk_u2 (I 1 1) 4 ((I 1 1 0 1).toNatClampNeg) (nI u))) 1 1 (tk_u2 (tk_u2 (I 1 1) 4 ((I 1 1 0 1).toNatClampNeg) (nI u)) 5 ((I 1 1 0 1).toNatClampNeg) (nI v))) 1 1 (tk_u2 (tk_u2 (tk_u2 (I 1 1) 4 ((I 1 1 0 1).toNatClampNeg) (nI u)) 5 ((I 1 1 0 1).toNatClampNeg) (nI v)) 6 ((I 1 1 0 1).toNatClampNeg) l)) 1 1 (tk_u2 (tk_u2 (tk_u2 (tk_u2 (I 1 1) 4 ((I 1 1 0 1).toNatClampNeg) (nI u)) 5 ((I 1 1 0 1).toNatClampNeg) (nI v)) 6 ((I 1 1 0 1).toNatClampNeg) l) 7 ((I 1 1 0 1).toNatClampNeg) h)) 1 1 (tk_u2 (tk_u2 (tk_u2 (tk_u2 (tk_u2 (I 1 1) 4 ((I 1 1 0 1).toNatClampNeg) (nI u)) 5 ((I 1 1 0 1).toNatClampNeg) (nI v)) 6 ((I 1 1 0 1).toNatClampNeg) l) 7 ((I 1 1 0 1).toNatClampNeg) h) 8 ((I 1 1 0 1).toNatClampNeg) g)) 1 1 (tk_u2 (tk_u2 (tk_u2 (tk_u2 (tk_u2 (tk_u2 (I 1 1) 4 ((I 1 1 0 1).toNatClampNeg) (nI u)) 5 ((I 1 1 0 1).toNatClampNeg) (nI v)) 6 ((I 1 1 0 1).toNatClampNeg) l) 7 ((I 1 1 0 1).toNatClampNeg) h) 8 ((I 1 1 0 1).toNatClampNeg) g) 0 1 ((I 1 1 0 1) + 1)), J, R)) _ from ⟨hin, hin, hin, hin, hin, ?_⟩)
  rw [tk_so_so, tk_so_so, tk_so_so, tk_so_so, tk_so_so]
  refine dn_ret0 rfl rfl rfl rfl ?_
  rw [show I 1 1 0 1 + 1 - 1 = nI (sL S) by rw [hL]; rw [nI_1, nI_sub1]]
  refine hQ _ (NetP_app hP (by rw [hL, nI_clamp (by omega)]) (by rw [hL]; rw [nI_1]))
theorem sn_append {I : tkI} {J : tkJ} {R : Nat → Nat} {b : Nat} (hb : b < 2) {Q : tkQ} {S : tkS} (hP : NetP (I 1 b) S) {u v : Nat} {l h g : Int32} (hlt : sL S < 60) (hQ : ∀ X, NetP X (app S u v l h g) → Q (some (.inl (nI (sL S)))) (tk_so I 1 b X, J, R)) : tkDn tm_36 (0, [some (.inr (.inr (1, b, 0))), some (.inl (nI u)), some (.inl (nI v)), some (.inl l), some (.inl h), some (.inl g)], [], (I, J, R)) Q := by
  match b, hb with
  | 0, _ => exact sn_append0 hP hlt hQ
  | 1, _ => exact sn_append1 hP hlt hQ
theorem sn_addMoments0 {I : tkI} {J : tkJ} {R : Nat → Nat} {Q : tkQ} {S : tkS} (hP : NetP (I 1 0) S) (w : WF S) {n : Int32} (hQ : ∀ X, NetP X (opMom S n).2 → Q (some (.inl (opMom S n).1)) (tk_so I 1 0 X, J, R)) : tkDn tm_30 (0, [some (.inr (.inr (1, 0, 0))), some (.inl n)], [], (I, J, R)) Q := by
  have hM := hP.m
  have hM16 := w.1
  refine dn_run 2 (show tkDn tm_30 (2, [some (.inr (.inr (1, 0, 0))), some (.inl n)], [.inl 1, .inl n], (I, J, R)) _ from ?_)
  refine dn_if rfl rfl rfl (fun (c1 : n < 1) => ?_) (fun (c1 : ¬ n < 1) => ?_)
  · show tkDn tm_30 (11, [some (.inr (.inr (1, 0, 0))), some (.inl n)], [], (I, J, R)) _
    refine dn_run 1 (show tkDn tm_30 (13, [some (.inr (.inr (1, 0, 0))), some (.inl n)], [.inl (-12)], (I, J, R)) _ from ?_)
    refine dn_ret0 rfl rfl rfl rfl ?_
    rw [show opMom S n = (-12, S) by unfold opMom; rw [if_pos (Or.inl c1)]] at hQ
    have := hQ (I 1 0) hP
    rw [tk_so_id] at this
    exact this
  · show tkDn tm_30 (5, [some (.inr (.inr (1, 0, 0))), some (.inl n)], [], (I, J, R)) _
    refine dn_run 2 (show tkDn tm_30 (8, [some (.inr (.inr (1, 0, 0))), some (.inl n)], [.inl 16, .inl n], (I, J, R)) _ from ?_)
    refine dn_if rfl rfl rfl (fun (c2 : n ≤ 16) => ?_) (fun (c2 : ¬ n ≤ 16) => ?_)
    · show tkDn tm_30 (14, [some (.inr (.inr (1, 0, 0))), some (.inl n)], [], (I, J, R)) _
      have c2 := Int32.not_lt.mpr c2
      refine dn_run 5 (show tkDn tm_30 (22, [some (.inr (.inr (1, 0, 0))), some (.inl n)], [.inl 16, .inl ((I 1 0 0 0) + n)], (I, J, R)) _ from ?_)
      refine dn_if rfl rfl rfl (fun (c3 : ((I 1 0 0 0) + n) ≤ 16) => ?_) (fun (c3 : ¬ ((I 1 0 0 0) + n) ≤ 16) => ?_)
      · show tkDn tm_30 (28, [some (.inr (.inr (1, 0, 0))), some (.inl n)], [], (I, J, R)) _
        have c3 := Int32.not_lt.mpr c3
        refine dn_run 8 (show tkDn tm_30 (42, [some (.inr (.inr (1, 0, 0))), some (.inl n)], [.inl ((I 1 0 0 0) + n)], (tk_so I 1 0 (tk_u2 (I 1 0) 0 0 ((I 1 0 0 0) + n)), J, R)) _ from ?_)
        refine dn_ret0 rfl rfl rfl rfl ?_
        rw [hM] at c3
        obtain ⟨j, hj, rfl⟩ := nI_of (x := n) (fun q => c1 (Int32.lt_trans q (by decide)))
        have hj16 : j ≤ 16 := by
          have := (nI_leI (a := j) (b := 16) hj (by decide)).mp (Int32.not_lt.mp c2)
          omega
        have he : opMom S (nI j) = (nI (sM S + j), (sM S + j, S.2)) := by
          unfold opMom
          rw [if_neg (fun q => q.elim c1 c2), if_neg c3, nI_clamp hj]
        rw [he] at hQ
        rw [show I 1 0 0 0 + nI j = nI (sM S + j) by rw [hM, nI_add]]
        refine hQ _ ⟨by rw [tk_u2_1]; rfl, by rw [tk_u2_0 (by decide)]; exact hP.l, by rw [tk_u2_0 (by decide)]; exact hP.g, fun q hq => ?_, fun q hq => ?_⟩
        · have := hP.2.2.2.1 q hq
          simp only [tk_u2_0 (show ¬ (4 = 0 ∧ q = 0) by omega), tk_u2_0 (show ¬ (5 = 0 ∧ q = 0) by omega), tk_u2_0 (show ¬ (6 = 0 ∧ q = 0) by omega), tk_u2_0 (show ¬ (7 = 0 ∧ q = 0) by omega), tk_u2_0 (show ¬ (8 = 0 ∧ q = 0) by omega)]
          exact this
        · rw [tk_u2_0 (show ¬ (9 = 0 ∧ q = 0) by omega)]
          exact hP.2.2.2.2 q hq
      · show tkDn tm_30 (25, [some (.inr (.inr (1, 0, 0))), some (.inl n)], [], (I, J, R)) _
        have c3 := Int32.not_le.mp c3
        refine dn_run 1 (show tkDn tm_30 (27, [some (.inr (.inr (1, 0, 0))), some (.inl n)], [.inl (-14)], (I, J, R)) _ from ?_)
        refine dn_ret0 rfl rfl rfl rfl ?_
        rw [hM] at c3
        rw [show opMom S n = (-14, S) by unfold opMom; rw [if_neg (fun q => q.elim c1 c2), if_pos c3]] at hQ
        have := hQ (I 1 0) hP
        rw [tk_so_id] at this
        exact this
    · show tkDn tm_30 (11, [some (.inr (.inr (1, 0, 0))), some (.inl n)], [], (I, J, R)) _
      refine dn_run 1 (show tkDn tm_30 (13, [some (.inr (.inr (1, 0, 0))), some (.inl n)], [.inl (-12)], (I, J, R)) _ from ?_)
      refine dn_ret0 rfl rfl rfl rfl ?_
      rw [show opMom S n = (-12, S) by unfold opMom; rw [if_pos (Or.inr (Int32.not_le.mp c2))]] at hQ
      have := hQ (I 1 0) hP
      rw [tk_so_id] at this
      exact this
theorem sn_addMoments1 {I : tkI} {J : tkJ} {R : Nat → Nat} {Q : tkQ} {S : tkS} (hP : NetP (I 1 1) S) (w : WF S) {n : Int32} (hQ : ∀ X, NetP X (opMom S n).2 → Q (some (.inl (opMom S n).1)) (tk_so I 1 1 X, J, R)) : tkDn tm_30 (0, [some (.inr (.inr (1, 1, 0))), some (.inl n)], [], (I, J, R)) Q := by
  have hM := hP.m
  have hM16 := w.1
  refine dn_run 2 (show tkDn tm_30 (2, [some (.inr (.inr (1, 1, 0))), some (.inl n)], [.inl 1, .inl n], (I, J, R)) _ from ?_)
  refine dn_if rfl rfl rfl (fun (c1 : n < 1) => ?_) (fun (c1 : ¬ n < 1) => ?_)
  · show tkDn tm_30 (11, [some (.inr (.inr (1, 1, 0))), some (.inl n)], [], (I, J, R)) _
    refine dn_run 1 (show tkDn tm_30 (13, [some (.inr (.inr (1, 1, 0))), some (.inl n)], [.inl (-12)], (I, J, R)) _ from ?_)
    refine dn_ret0 rfl rfl rfl rfl ?_
    rw [show opMom S n = (-12, S) by unfold opMom; rw [if_pos (Or.inl c1)]] at hQ
    have := hQ (I 1 1) hP
    rw [tk_so_id] at this
    exact this
  · show tkDn tm_30 (5, [some (.inr (.inr (1, 1, 0))), some (.inl n)], [], (I, J, R)) _
    refine dn_run 2 (show tkDn tm_30 (8, [some (.inr (.inr (1, 1, 0))), some (.inl n)], [.inl 16, .inl n], (I, J, R)) _ from ?_)
    refine dn_if rfl rfl rfl (fun (c2 : n ≤ 16) => ?_) (fun (c2 : ¬ n ≤ 16) => ?_)
    · show tkDn tm_30 (14, [some (.inr (.inr (1, 1, 0))), some (.inl n)], [], (I, J, R)) _
      have c2 := Int32.not_lt.mpr c2
      refine dn_run 5 (show tkDn tm_30 (22, [some (.inr (.inr (1, 1, 0))), some (.inl n)], [.inl 16, .inl ((I 1 1 0 0) + n)], (I, J, R)) _ from ?_)
      refine dn_if rfl rfl rfl (fun (c3 : ((I 1 1 0 0) + n) ≤ 16) => ?_) (fun (c3 : ¬ ((I 1 1 0 0) + n) ≤ 16) => ?_)
      · show tkDn tm_30 (28, [some (.inr (.inr (1, 1, 0))), some (.inl n)], [], (I, J, R)) _
        have c3 := Int32.not_lt.mpr c3
        refine dn_run 8 (show tkDn tm_30 (42, [some (.inr (.inr (1, 1, 0))), some (.inl n)], [.inl ((I 1 1 0 0) + n)], (tk_so I 1 1 (tk_u2 (I 1 1) 0 0 ((I 1 1 0 0) + n)), J, R)) _ from ?_)
        refine dn_ret0 rfl rfl rfl rfl ?_
        rw [hM] at c3
        obtain ⟨j, hj, rfl⟩ := nI_of (x := n) (fun q => c1 (Int32.lt_trans q (by decide)))
        have hj16 : j ≤ 16 := by
          have := (nI_leI (a := j) (b := 16) hj (by decide)).mp (Int32.not_lt.mp c2)
          omega
        have he : opMom S (nI j) = (nI (sM S + j), (sM S + j, S.2)) := by
          unfold opMom
          rw [if_neg (fun q => q.elim c1 c2), if_neg c3, nI_clamp hj]
        rw [he] at hQ
        rw [show I 1 1 0 0 + nI j = nI (sM S + j) by rw [hM, nI_add]]
        refine hQ _ ⟨by rw [tk_u2_1]; rfl, by rw [tk_u2_0 (by decide)]; exact hP.l, by rw [tk_u2_0 (by decide)]; exact hP.g, fun q hq => ?_, fun q hq => ?_⟩
        · have := hP.2.2.2.1 q hq
          simp only [tk_u2_0 (show ¬ (4 = 0 ∧ q = 0) by omega), tk_u2_0 (show ¬ (5 = 0 ∧ q = 0) by omega), tk_u2_0 (show ¬ (6 = 0 ∧ q = 0) by omega), tk_u2_0 (show ¬ (7 = 0 ∧ q = 0) by omega), tk_u2_0 (show ¬ (8 = 0 ∧ q = 0) by omega)]
          exact this
        · rw [tk_u2_0 (show ¬ (9 = 0 ∧ q = 0) by omega)]
          exact hP.2.2.2.2 q hq
      · show tkDn tm_30 (25, [some (.inr (.inr (1, 1, 0))), some (.inl n)], [], (I, J, R)) _
        have c3 := Int32.not_le.mp c3
        refine dn_run 1 (show tkDn tm_30 (27, [some (.inr (.inr (1, 1, 0))), some (.inl n)], [.inl (-14)], (I, J, R)) _ from ?_)
        refine dn_ret0 rfl rfl rfl rfl ?_
        rw [hM] at c3
        rw [show opMom S n = (-14, S) by unfold opMom; rw [if_neg (fun q => q.elim c1 c2), if_pos c3]] at hQ
        have := hQ (I 1 1) hP
        rw [tk_so_id] at this
        exact this
    · show tkDn tm_30 (11, [some (.inr (.inr (1, 1, 0))), some (.inl n)], [], (I, J, R)) _
      refine dn_run 1 (show tkDn tm_30 (13, [some (.inr (.inr (1, 1, 0))), some (.inl n)], [.inl (-12)], (I, J, R)) _ from ?_)
      refine dn_ret0 rfl rfl rfl rfl ?_
      rw [show opMom S n = (-12, S) by unfold opMom; rw [if_pos (Or.inr (Int32.not_le.mp c2))]] at hQ
      have := hQ (I 1 1) hP
      rw [tk_so_id] at this
      exact this
theorem sn_addMoments {I : tkI} {J : tkJ} {R : Nat → Nat} {b : Nat} (hb : b < 2) {Q : tkQ} {S : tkS} (hP : NetP (I 1 b) S) (w : WF S) {n : Int32} (hQ : ∀ X, NetP X (opMom S n).2 → Q (some (.inl (opMom S n).1)) (tk_so I 1 b X, J, R)) : tkDn tm_30 (0, [some (.inr (.inr (1, b, 0))), some (.inl n)], [], (I, J, R)) Q := by
  match b, hb with
  | 0, _ => exact sn_addMoments0 hP w hQ
  | 1, _ => exact sn_addMoments1 hP w hQ
end
section
/-! Net: the rest of it -/
theorem sN_giftFrom {I : tkI} {J : tkJ} {R : Nat → Nat} {b : Nat} {Q : tkQ} {S : tkS} (hP : NetP (I 1 b) S) (w : WF S) {g : Nat} (hg : g < sG S) (hQ : Q (some (.inl (nI (sf S (sgl S g))))) (I, J, R)) : tkDn tm_23 (0, [some (.inr (.inr (1, b, 0))), some (.inl (nI g))], [], (I, J, R)) Q := by
  have h1 := hP.gl w hg
  have hl := w.gl hg
  have h2 := hP.fr w hl
  have hG6 := w.2.2.1
  have hL60 := w.2.1
  exact sn_giftFrom (vp_in_nI (by omega) (by omega)) (by rw [h1]; exact vp_in_nI (by omega) (by omega)) (by rw [h1, h2]; exact hQ)
theorem sN_giftTo {I : tkI} {J : tkJ} {R : Nat → Nat} {b : Nat} {Q : tkQ} {S : tkS} (hP : NetP (I 1 b) S) (w : WF S) {g : Nat} (hg : g < sG S) (hQ : Q (some (.inl (nI (se S (sgl S g))))) (I, J, R)) : tkDn tm_24 (0, [some (.inr (.inr (1, b, 0))), some (.inl (nI g))], [], (I, J, R)) Q := by
  have h1 := hP.gl w hg
  have hl := w.gl hg
  have h2 := hP.en w hl
  have hG6 := w.2.2.1
  have hL60 := w.2.1
  exact sn_giftTo (vp_in_nI (by omega) (by omega)) (by rw [h1]; exact vp_in_nI (by omega) (by omega)) (by rw [h1, h2]; exact hQ)
theorem sN_giftLow {I : tkI} {J : tkJ} {R : Nat → Nat} {b : Nat} {Q : tkQ} {S : tkS} (hP : NetP (I 1 b) S) (w : WF S) {g : Nat} (hg : g < sG S) (hQ : Q (some (.inl (slo S (sgl S g)))) (I, J, R)) : tkDn tm_25 (0, [some (.inr (.inr (1, b, 0))), some (.inl (nI g))], [], (I, J, R)) Q := by
  have h1 := hP.gl w hg
  have hl := w.gl hg
  have h2 := hP.lo w hl
  have hG6 := w.2.2.1
  have hL60 := w.2.1
  exact sn_giftLow (vp_in_nI (by omega) (by omega)) (by rw [h1]; exact vp_in_nI (by omega) (by omega)) (by rw [h1, h2]; exact hQ)
theorem sN_giftHigh {I : tkI} {J : tkJ} {R : Nat → Nat} {b : Nat} {Q : tkQ} {S : tkS} (hP : NetP (I 1 b) S) (w : WF S) {g : Nat} (hg : g < sG S) (hQ : Q (some (.inl (shi S (sgl S g)))) (I, J, R)) : tkDn tm_26 (0, [some (.inr (.inr (1, b, 0))), some (.inl (nI g))], [], (I, J, R)) Q := by
  have h1 := hP.gl w hg
  have hl := w.gl hg
  have h2 := hP.hi w hl
  have hG6 := w.2.2.1
  have hL60 := w.2.1
  exact sn_giftHigh (vp_in_nI (by omega) (by omega)) (by rw [h1]; exact vp_in_nI (by omega) (by omega)) (by rw [h1, h2]; exact hQ)
theorem sN_linkFrom {I : tkI} {J : tkJ} {R : Nat → Nat} {b : Nat} {Q : tkQ} {S : tkS} (hP : NetP (I 1 b) S) (w : WF S) {j : Nat} (hj : j < sL S) (hQ : Q (some (.inl (nI (sf S j)))) (I, J, R)) : tkDn tm_19 (0, [some (.inr (.inr (1, b, 0))), some (.inl (nI j))], [], (I, J, R)) Q := by
  have h2 := hP.fr w hj
  have hL60 := w.2.1
  exact sn_linkFrom (vp_in_nI (by omega) (by omega)) (by rw [h2]; exact hQ)
theorem sN_linkTo {I : tkI} {J : tkJ} {R : Nat → Nat} {b : Nat} {Q : tkQ} {S : tkS} (hP : NetP (I 1 b) S) (w : WF S) {j : Nat} (hj : j < sL S) (hQ : Q (some (.inl (nI (se S j)))) (I, J, R)) : tkDn tm_20 (0, [some (.inr (.inr (1, b, 0))), some (.inl (nI j))], [], (I, J, R)) Q := by
  have h2 := hP.en w hj
  have hL60 := w.2.1
  exact sn_linkTo (vp_in_nI (by omega) (by omega)) (by rw [h2]; exact hQ)
theorem sN_linkLow {I : tkI} {J : tkJ} {R : Nat → Nat} {b : Nat} {Q : tkQ} {S : tkS} (hP : NetP (I 1 b) S) (w : WF S) {j : Nat} (hj : j < sL S) (hQ : Q (some (.inl (slo S j))) (I, J, R)) : tkDn tm_21 (0, [some (.inr (.inr (1, b, 0))), some (.inl (nI j))], [], (I, J, R)) Q := by
  have h2 := hP.lo w hj
  have hL60 := w.2.1
  exact sn_linkLow (vp_in_nI (by omega) (by omega)) (by rw [h2]; exact hQ)
theorem sN_linkHigh {I : tkI} {J : tkJ} {R : Nat → Nat} {b : Nat} {Q : tkQ} {S : tkS} (hP : NetP (I 1 b) S) (w : WF S) {j : Nat} (hj : j < sL S) (hQ : Q (some (.inl (shi S j))) (I, J, R)) : tkDn tm_22 (0, [some (.inr (.inr (1, b, 0))), some (.inl (nI j))], [], (I, J, R)) Q := by
  have h2 := hP.hi w hj
  have hL60 := w.2.1
  exact sn_linkHigh (vp_in_nI (by omega) (by omega)) (by rw [h2]; exact hQ)
theorem sN_momentCount {I : tkI} {J : tkJ} {R : Nat → Nat} {b : Nat} {Q : tkQ} {S : tkS} (hP : NetP (I 1 b) S) (hQ : Q (some (.inl (nI (sM S)))) (I, J, R)) : tkDn tm_12 (0, [some (.inr (.inr (1, b, 0)))], [], (I, J, R)) Q := sn_momentCount (by rw [hP.m]; exact hQ)
theorem sN_linkCount {I : tkI} {J : tkJ} {R : Nat → Nat} {b : Nat} {Q : tkQ} {S : tkS} (hP : NetP (I 1 b) S) (hQ : Q (some (.inl (nI (sL S)))) (I, J, R)) : tkDn tm_13 (0, [some (.inr (.inr (1, b, 0)))], [], (I, J, R)) Q := sn_linkCount (by rw [hP.l]; exact hQ)
theorem sN_giftCount {I : tkI} {J : tkJ} {R : Nat → Nat} {b : Nat} {Q : tkQ} {S : tkS} (hP : NetP (I 1 b) S) (hQ : Q (some (.inl (nI (sG S)))) (I, J, R)) : tkDn tm_14 (0, [some (.inr (.inr (1, b, 0)))], [], (I, J, R)) Q := sn_giftCount (by rw [hP.g]; exact hQ)
theorem sn_isGift {I : tkI} {J : tkJ} {R : Nat → Nat} {b : Nat} {Q : tkQ} {l : Int32} (hl : vp_in l 60) (hQ : Q (some (.inl (if I 1 b 8 l.toNatClampNeg = -9 then 0 else 1))) (I, J, R)) : tkDn tm_18 (0, [some (.inr (.inr (1, b, 0))), some (.inl l)], [], (I, J, R)) Q := by
  refine dn_run 5 (show (vp_in l 60) ∧ tkDn tm_18 (8, [some (.inr (.inr (1, b, 0))), some (.inl l)], [.inl (-9), .inl (I 1 b 8 l.toNatClampNeg)], (I, J, R)) _ from ⟨hl, ?_⟩)
  refine dn_if rfl rfl rfl (fun (c : (I 1 b 8 l.toNatClampNeg) = (-9)) => ?_) (fun (c : ¬ (I 1 b 8 l.toNatClampNeg) = (-9)) => ?_)
  · show tkDn tm_18 (15, [some (.inr (.inr (1, b, 0))), some (.inl l)], [], (I, J, R)) _
    refine dn_run 1 (show tkDn tm_18 (16, [some (.inr (.inr (1, b, 0))), some (.inl l)], [.inl 0], (I, J, R)) _ from ?_)
    refine dn_retb rfl rfl rfl rfl (by decide) ?_
    rw [if_pos c] at hQ
    exact hQ
  · show tkDn tm_18 (11, [some (.inr (.inr (1, b, 0))), some (.inl l)], [], (I, J, R)) _
    refine dn_run 2 (show tkDn tm_18 (16, [some (.inr (.inr (1, b, 0))), some (.inl l)], [.inl 1], (I, J, R)) _ from ?_)
    refine dn_retb rfl rfl rfl rfl (by decide) ?_
    rw [if_neg c] at hQ
    exact hQ
theorem sn_chosenLength {I : tkI} {J : tkJ} {R : Nat → Nat} {b : Nat} {Q : tkQ} {S : tkS} (hP : NetP (I 1 b) S) (w : WF S) {g : Nat} (hg : g < sG S) {k : Int32} (hQ : Q (some (.inl (if (k >>> (nI g &&& 31)) &&& 1 = 1 then shi S (sgl S g) else slo S (sgl S g)))) (I, J, R)) : tkDn tm_27 (0, [some (.inr (.inr (1, b, 0))), some (.inl (nI g)), some (.inl k)], [], (I, J, R)) Q := by
  have h1 := hP.gl w hg
  have hl := w.gl hg
  have h2 := hP.hi w hl
  have h3 := hP.lo w hl
  have hG6 := w.2.2.1
  have hL60 := w.2.1
  refine dn_run 6 (show tkDn tm_27 (6, [some (.inr (.inr (1, b, 0))), some (.inl (nI g)), some (.inl k)], [.inl 1, .inl ((k >>> ((nI g) &&& 31)) &&& 1)], (I, J, R)) _ from ?_)
  refine dn_if rfl rfl rfl (fun (c : ¬ ((k >>> ((nI g) &&& 31)) &&& 1) = 1) => ?_) (fun (c : ((k >>> ((nI g) &&& 31)) &&& 1) = 1) => ?_)
  · show tkDn tm_27 (17, [some (.inr (.inr (1, b, 0))), some (.inl (nI g)), some (.inl k)], [], (I, J, R)) _
    refine dn_run 2 (show tkDn tm_27 (19, [some (.inr (.inr (1, b, 0))), some (.inl (nI g)), some (.inl k)], [.inl (nI g), .inr (.inr (1, b, 0))], (I, J, R)) _ from ?_)
    refine dn_call rfl rfl rfl rfl rfl (sN_giftLow hP w hg ?_)
    show tkDn tm_27 (22, [some (.inr (.inr (1, b, 0))), some (.inl (nI g)), some (.inl k)], [.inl (slo S (sgl S g))], (I, J, R)) _
    refine dn_ret0 rfl rfl rfl rfl ?_
    rw [if_neg c] at hQ
    exact hQ
  · show tkDn tm_27 (9, [some (.inr (.inr (1, b, 0))), some (.inl (nI g)), some (.inl k)], [], (I, J, R)) _
    refine dn_run 2 (show tkDn tm_27 (11, [some (.inr (.inr (1, b, 0))), some (.inl (nI g)), some (.inl k)], [.inl (nI g), .inr (.inr (1, b, 0))], (I, J, R)) _ from ?_)
    refine dn_call rfl rfl rfl rfl rfl (sN_giftHigh hP w hg ?_)
    show tkDn tm_27 (14, [some (.inr (.inr (1, b, 0))), some (.inl (nI g)), some (.inl k)], [.inl (shi S (sgl S g))], (I, J, R)) _
    refine dn_run 1 (show tkDn tm_27 (22, [some (.inr (.inr (1, b, 0))), some (.inl (nI g)), some (.inl k)], [.inl (shi S (sgl S g))], (I, J, R)) _ from ?_)
    refine dn_ret0 rfl rfl rfl rfl ?_
    rw [if_pos c] at hQ
    exact hQ
theorem sn_comesFrom_loop {I : tkI} {J : tkJ} {R : Nat → Nat} {b : Nat} {Q : tkQ} {S : tkS} (hP : NetP (I 1 b) S) (w : WF S) {m k : Nat} (hk : k < 16) : ∀ n q t o, n + q = 7 → t < sM S → Q (some (.inl (if cfF S k n t = true then 1 else 0))) (I, J, R) → tkDn tm_39 (5, [some (.inr (.inr (1, b, 0))), some (.inl (nI m)), some (.inl (nI k)), some (.inl (nI t)), some (.inl (nI q)), o], [], (I, J, R)) Q := by
  have hM16 := w.1
  have hG6 := w.2.2.1
  have hL60 := w.2.1
  intro n
  induction n with
  | zero =>
    intro q t o hq ht hQ
    show tkDn tm_39 (5, [some (.inr (.inr (1, b, 0))), some (.inl (nI m)), some (.inl (nI k)), some (.inl (nI t)), some (.inl (nI q)), o], [], (I, J, R)) _
    refine dn_run 2 (show tkDn tm_39 (9, [some (.inr (.inr (1, b, 0))), some (.inl (nI m)), some (.inl (nI k)), some (.inl (nI t)), some (.inl (nI q)), o], [.inl 6, .inl (nI q)], (I, J, R)) _ from ?_)
    refine dn_if rfl rfl rfl (fun (c : 6 < (nI q)) => ?_) (fun (c : ¬ 6 < (nI q)) => ?_)
    · show tkDn tm_39 (48, [some (.inr (.inr (1, b, 0))), some (.inl (nI m)), some (.inl (nI k)), some (.inl (nI t)), some (.inl (nI q)), o], [], (I, J, R)) _
      refine dn_run 1 (show tkDn tm_39 (49, [some (.inr (.inr (1, b, 0))), some (.inl (nI m)), some (.inl (nI k)), some (.inl (nI t)), some (.inl (nI q)), o], [.inl 1], (I, J, R)) _ from ?_)
      refine dn_retb rfl rfl rfl rfl (by decide) ?_
      exact hQ
    · exact absurd (nI_lt (a := 6) (by omega) (by omega)) c
  | succ n ih =>
    intro q t o hq ht hQ
    show tkDn tm_39 (5, [some (.inr (.inr (1, b, 0))), some (.inl (nI m)), some (.inl (nI k)), some (.inl (nI t)), some (.inl (nI q)), o], [], (I, J, R)) _
    refine dn_run 2 (show tkDn tm_39 (9, [some (.inr (.inr (1, b, 0))), some (.inl (nI m)), some (.inl (nI k)), some (.inl (nI t)), some (.inl (nI q)), o], [.inl 6, .inl (nI q)], (I, J, R)) _ from ?_)
    refine dn_if rfl rfl rfl (fun (c : 6 < (nI q)) => ?_) (fun (c : ¬ 6 < (nI q)) => ?_)
    · exact absurd c (nI_nlt (a := 6) (by omega) (by omega))
    · show tkDn tm_39 (12, [some (.inr (.inr (1, b, 0))), some (.inl (nI m)), some (.inl (nI k)), some (.inl (nI t)), some (.inl (nI q)), o], [], (I, J, R)) _
      refine dn_run 2 (show tkDn tm_39 (14, [some (.inr (.inr (1, b, 0))), some (.inl (nI m)), some (.inl (nI k)), some (.inl (nI t)), some (.inl (nI q)), o], [.inl (nI k), .inl (nI t)], (I, J, R)) _ from ?_)
      refine dn_if rfl rfl rfl (fun (c2 : ¬ (nI t) = (nI k)) => ?_) (fun (c2 : (nI t) = (nI k)) => ?_)
      · show tkDn tm_39 (19, [some (.inr (.inr (1, b, 0))), some (.inl (nI m)), some (.inl (nI k)), some (.inl (nI t)), some (.inl (nI q)), o], [], (I, J, R)) _
        refine dn_run 2 (show tkDn tm_39 (21, [some (.inr (.inr (1, b, 0))), some (.inl (nI m)), some (.inl (nI k)), some (.inl (nI t)), some (.inl (nI q)), o], [.inl (nI t), .inr (.inr (1, b, 0))], (I, J, R)) _ from ?_)
        refine dn_call rfl rfl rfl rfl rfl (sn_giftInto hP w (by omega) ?_)
        show tkDn tm_39 (24, [some (.inr (.inr (1, b, 0))), some (.inl (nI m)), some (.inl (nI k)), some (.inl (nI t)), some (.inl (nI q)), o], [.inl (if gt S t < sG S then nI (gt S t) else -9)], (I, J, R)) _
        refine dn_run 3 (show tkDn tm_39 (30, [some (.inr (.inr (1, b, 0))), some (.inl (nI m)), some (.inl (nI k)), some (.inl (nI t)), some (.inl (nI q)), some (.inl (if gt S t < sG S then nI (gt S t) else -9))], [.inl (-9), .inl (if gt S t < sG S then nI (gt S t) else -9)], (I, J, R)) _ from ?_)
        refine dn_if rfl rfl rfl (fun (c3 : ¬ (if gt S t < sG S then nI (gt S t) else -9) = (-9)) => ?_) (fun (c3 : (if gt S t < sG S then nI (gt S t) else -9) = (-9)) => ?_)
        · show tkDn tm_39 (35, [some (.inr (.inr (1, b, 0))), some (.inl (nI m)), some (.inl (nI k)), some (.inl (nI t)), some (.inl (nI q)), some (.inl (if gt S t < sG S then nI (gt S t) else -9))], [], (I, J, R)) _
          have hg : gt S t < sG S := by by_cases z : gt S t < sG S; exact z; exact absurd (if_neg z) c3
          have h1 := hP.gl w hg
          have hl := w.gl hg
          have h2 := hP.fr w hl
          rw [if_pos hg]
          show tkDn tm_39 (35, [some (.inr (.inr (1, b, 0))), some (.inl (nI m)), some (.inl (nI k)), some (.inl (nI t)), some (.inl (nI q)), some (.inl (nI (gt S t)))], [], (I, J, R)) _
          refine dn_run 2 (show tkDn tm_39 (38, [some (.inr (.inr (1, b, 0))), some (.inl (nI m)), some (.inl (nI k)), some (.inl (nI t)), some (.inl (nI q)), some (.inl (nI (gt S t)))], [.inl (nI (gt S t)), .inr (.inr (1, b, 0))], (I, J, R)) _ from ?_)
          refine dn_call rfl rfl rfl rfl rfl (sN_giftFrom hP w hg ?_)
          show tkDn tm_39 (41, [some (.inr (.inr (1, b, 0))), some (.inl (nI m)), some (.inl (nI k)), some (.inl (nI t)), some (.inl (nI q)), some (.inl (nI (gt S t)))], [.inl (nI (sf S (sgl S (gt S t))))], (I, J, R)) _
          refine dn_run 3 (show tkDn tm_39 (5, [some (.inr (.inr (1, b, 0))), some (.inl (nI m)), some (.inl (nI k)), some (.inl (nI (sf S (sgl S (gt S t))))), some (.inl ((nI q) + 1)), some (.inl (nI (gt S t)))], [], (I, J, R)) _ from ?_)
          rw [nI_1]
          have c2 : ¬ t = k := fun z => c2 (by rw [z])
          rw [show cfF S k (n + 1) t = cfF S k n (sf S (sgl S (gt S t))) by show (if t = k then true else if gt S t < sG S then _ else _) = _; rw [if_neg c2, if_pos hg]] at hQ
          exact ih (q + 1) _ _ (by omega) (w.fM hl) hQ
        · show tkDn tm_39 (33, [some (.inr (.inr (1, b, 0))), some (.inl (nI m)), some (.inl (nI k)), some (.inl (nI t)), some (.inl (nI q)), some (.inl (if gt S t < sG S then nI (gt S t) else -9))], [], (I, J, R)) _
          refine dn_run 1 (show tkDn tm_39 (34, [some (.inr (.inr (1, b, 0))), some (.inl (nI m)), some (.inl (nI k)), some (.inl (nI t)), some (.inl (nI q)), some (.inl (if gt S t < sG S then nI (gt S t) else -9))], [.inl 0], (I, J, R)) _ from ?_)
          refine dn_retb rfl rfl rfl rfl (by decide) ?_
          have c2 : ¬ t = k := fun z => c2 (by rw [z])
          have hg : ¬ gt S t < sG S := fun z => by rw [if_pos z] at c3; exact nI_n9 (by omega) c3
          rw [show cfF S k (n + 1) t = false by show (if t = k then true else if gt S t < sG S then _ else _) = _; rw [if_neg c2, if_neg hg]] at hQ
          exact hQ
      · show tkDn tm_39 (17, [some (.inr (.inr (1, b, 0))), some (.inl (nI m)), some (.inl (nI k)), some (.inl (nI t)), some (.inl (nI q)), o], [], (I, J, R)) _
        refine dn_run 1 (show tkDn tm_39 (18, [some (.inr (.inr (1, b, 0))), some (.inl (nI m)), some (.inl (nI k)), some (.inl (nI t)), some (.inl (nI q)), o], [.inl 1], (I, J, R)) _ from ?_)
        refine dn_retb rfl rfl rfl rfl (by decide) ?_
        have c2 : t = k := (nI_eq (by omega) (by omega)).mp c2
        rw [show cfF S k (n + 1) t = true from if_pos c2] at hQ
        exact hQ
theorem sn_comesFrom {I : tkI} {J : tkJ} {R : Nat → Nat} {b : Nat} {Q : tkQ} {S : tkS} (hP : NetP (I 1 b) S) (w : WF S) {m k : Nat} (hm : m < sM S) (hk : k < 16) (hQ : Q (some (.inl (if cfF S k 7 m = true then 1 else 0))) (I, J, R)) : tkDn tm_39 (0, [some (.inr (.inr (1, b, 0))), some (.inl (nI m)), some (.inl (nI k)), none, none, none], [], (I, J, R)) Q := by
  refine dn_run 4 (show tkDn tm_39 (5, [some (.inr (.inr (1, b, 0))), some (.inl (nI m)), some (.inl (nI k)), some (.inl (nI m)), some (.inl 0), none], [], (I, J, R)) _ from ?_)
  exact sn_comesFrom_loop hP w hk 7 0 m none rfl hm hQ
theorem sn_addWish {I : tkI} {J : tkJ} {R : Nat → Nat} {b : Nat} {Q : tkQ} {S : tkS} (hP : NetP (I 1 b) S) (w : WF S) (hb : b < 2) {u v l h : Int32} (hQ : ∀ X, NetP X (opWish S u v l h).2 → Q (some (.inl (opWish S u v l h).1)) (tk_so I 1 b X, J, R)) : tkDn tm_31 (0, [some (.inr (.inr (1, b, 0))), some (.inl u), some (.inl v), some (.inl l), some (.inl h), none], [], (I, J, R)) Q := by
  have hM16 := w.1
  have hL60 := w.2.1
  have hL := hP.l
  refine dn_run 6 (show tkDn tm_31 (8, [some (.inr (.inr (1, b, 0))), some (.inl u), some (.inl v), some (.inl l), some (.inl h), none], [.inl (-100000), .inl h, .inl l, .inl v, .inl u, .inr (.inr (1, b, 0))], (I, J, R)) _ from ?_)
  refine dn_call rfl rfl rfl rfl rfl (sn_refuseLink hP ?_)
  show tkDn tm_31 (11, [some (.inr (.inr (1, b, 0))), some (.inl u), some (.inl v), some (.inl l), some (.inl h), none], [.inl (rfF S u v l h (-100000))], (I, J, R)) _
  refine dn_run 2 (show tkDn tm_31 (15, [some (.inr (.inr (1, b, 0))), some (.inl u), some (.inl v), some (.inl l), some (.inl h), some (.inl (rfF S u v l h (-100000)))], [.inl (rfF S u v l h (-100000))], (I, J, R)) _ from ?_)
  refine dn_if rfl rfl rfl (fun (c1 : (rfF S u v l h (-100000)) = 0) => ?_) (fun (c1 : ¬ (rfF S u v l h (-100000)) = 0) => ?_)
  · show tkDn tm_31 (21, [some (.inr (.inr (1, b, 0))), some (.inl u), some (.inl v), some (.inl l), some (.inl h), some (.inl (rfF S u v l h (-100000)))], [], (I, J, R)) _
    refine dn_run 3 (show tkDn tm_31 (27, [some (.inr (.inr (1, b, 0))), some (.inl u), some (.inl v), some (.inl l), some (.inl h), some (.inl (rfF S u v l h (-100000)))], [.inl 60, .inl (I 1 b 0 1)], (I, J, R)) _ from ?_)
    refine dn_if rfl rfl rfl (fun (c2 : (I 1 b 0 1) < 60) => ?_) (fun (c2 : ¬ (I 1 b 0 1) < 60) => ?_)
    · show tkDn tm_31 (33, [some (.inr (.inr (1, b, 0))), some (.inl u), some (.inl v), some (.inl l), some (.inl h), some (.inl (rfF S u v l h (-100000)))], [], (I, J, R)) _
      rw [hL] at c2
      have hlt : sL S < 60 := (nI_ltI (b := 60) (by omega) (by decide)).mp c2
      obtain ⟨h1, h2, h3, h4⟩ := rfF_0 c1
      rw [show opWish S u v l h = (nI (sL S), app S u.toNatClampNeg v.toNatClampNeg l h (-9)) by unfold opWish; rw [if_pos c1, if_neg (by omega)]] at hQ
      obtain ⟨u, hu, rfl, hu2⟩ := hasM_nat hM16 h1
      obtain ⟨v, hv, rfl, hv2⟩ := hasM_nat hM16 h2
      rw [hu2, hv2] at hQ
      show tkDn tm_31 (33, [some (.inr (.inr (1, b, 0))), some (.inl (nI u)), some (.inl (nI v)), some (.inl l), some (.inl h), some (.inl (rfF S (nI u) (nI v) l h (-100000)))], [], (I, J, R)) _
      refine dn_run 6 (show tkDn tm_31 (41, [some (.inr (.inr (1, b, 0))), some (.inl (nI u)), some (.inl (nI v)), some (.inl l), some (.inl h), some (.inl (rfF S (nI u) (nI v) l h (-100000)))], [.inl (-9), .inl h, .inl l, .inl (nI v), .inl (nI u), .inr (.inr (1, b, 0))], (I, J, R)) _ from ?_)
      refine dn_call rfl rfl rfl rfl rfl (sn_append hb hP hlt (fun X hX => ?_))
      show tkDn tm_31 (44, [some (.inr (.inr (1, b, 0))), some (.inl (nI u)), some (.inl (nI v)), some (.inl l), some (.inl h), some (.inl (rfF S (nI u) (nI v) l h (-100000)))], [.inl (nI (sL S))], (tk_so I 1 b X, J, R)) _
      refine dn_ret0 rfl rfl rfl rfl ?_
      exact hQ X hX
    · show tkDn tm_31 (30, [some (.inr (.inr (1, b, 0))), some (.inl u), some (.inl v), some (.inl l), some (.inl h), some (.inl (rfF S u v l h (-100000)))], [], (I, J, R)) _
      refine dn_run 1 (show tkDn tm_31 (32, [some (.inr (.inr (1, b, 0))), some (.inl u), some (.inl v), some (.inl l), some (.inl h), some (.inl (rfF S u v l h (-100000)))], [.inl (-14)], (I, J, R)) _ from ?_)
      refine dn_ret0 rfl rfl rfl rfl ?_
      rw [hL] at c2
      have hlt : 60 ≤ sL S := Nat.le_of_not_lt (fun z => c2 (nI_lt (b := 60) z (by decide)))
      rw [show opWish S u v l h = (-14, S) by unfold opWish; rw [if_pos c1, if_pos hlt]] at hQ
      have := hQ (I 1 b) hP
      rw [tk_so_id] at this
      exact this
  · show tkDn tm_31 (18, [some (.inr (.inr (1, b, 0))), some (.inl u), some (.inl v), some (.inl l), some (.inl h), some (.inl (rfF S u v l h (-100000)))], [], (I, J, R)) _
    refine dn_run 1 (show tkDn tm_31 (20, [some (.inr (.inr (1, b, 0))), some (.inl u), some (.inl v), some (.inl l), some (.inl h), some (.inl (rfF S u v l h (-100000)))], [.inl (rfF S u v l h (-100000))], (I, J, R)) _ from ?_)
    refine dn_ret0 rfl rfl rfl rfl ?_
    rw [show opWish S u v l h = (rfF S u v l h (-100000), S) by unfold opWish; rw [if_neg c1]] at hQ
    have := hQ (I 1 b) hP
    rw [tk_so_id] at this
    exact this
end
section
/-! Net: gifts, undo, bounds, parts -/
theorem sn_addGift0 {I : tkI} {J : tkJ} {R : Nat → Nat} {Q : tkQ} {S : tkS} (hP : NetP (I 1 0) S) (w : WF S) {u v l h : Int32} (hQ : ∀ X, NetP X (opGift S u v l h).2 → Q (some (.inl (opGift S u v l h).1)) (tk_so I 1 0 X, J, R)) : tkDn tm_32 (0, [some (.inr (.inr (1, 0, 0))), some (.inl u), some (.inl v), some (.inl l), some (.inl h), none], [], (I, J, R)) Q := by
  have hM16 := w.1
  have hL60 := w.2.1
  have hG6 := w.2.2.1
  have hL := hP.l
  have hG := hP.g
  refine dn_run 6 (show tkDn tm_32 (7, [some (.inr (.inr (1, 0, 0))), some (.inl u), some (.inl v), some (.inl l), some (.inl h), none], [.inl 1, .inl h, .inl l, .inl v, .inl u, .inr (.inr (1, 0, 0))], (I, J, R)) _ from ?_)
  refine dn_call rfl rfl rfl rfl rfl (sn_refuseLink hP ?_)
  show tkDn tm_32 (10, [some (.inr (.inr (1, 0, 0))), some (.inl u), some (.inl v), some (.inl l), some (.inl h), none], [.inl (rfF S u v l h 1)], (I, J, R)) _
  refine dn_run 2 (show tkDn tm_32 (14, [some (.inr (.inr (1, 0, 0))), some (.inl u), some (.inl v), some (.inl l), some (.inl h), some (.inl (rfF S u v l h 1))], [.inl (rfF S u v l h 1)], (I, J, R)) _ from ?_)
  refine dn_if rfl rfl rfl (fun (c1 : (rfF S u v l h 1) = 0) => ?_) (fun (c1 : ¬ (rfF S u v l h 1) = 0) => ?_)
  · show tkDn tm_32 (20, [some (.inr (.inr (1, 0, 0))), some (.inl u), some (.inl v), some (.inl l), some (.inl h), some (.inl (rfF S u v l h 1))], [], (I, J, R)) _
    obtain ⟨h1, h2, h3, h4⟩ := rfF_0 c1
    obtain ⟨u, hu, rfl, hu2⟩ := hasM_nat hM16 h1
    obtain ⟨v, hv, rfl, hv2⟩ := hasM_nat hM16 h2
    show tkDn tm_32 (20, [some (.inr (.inr (1, 0, 0))), some (.inl (nI u)), some (.inl (nI v)), some (.inl l), some (.inl h), some (.inl (rfF S (nI u) (nI v) l h 1))], [], (I, J, R)) _
    refine dn_run 2 (show tkDn tm_32 (22, [some (.inr (.inr (1, 0, 0))), some (.inl (nI u)), some (.inl (nI v)), some (.inl l), some (.inl h), some (.inl (rfF S (nI u) (nI v) l h 1))], [.inl (nI v), .inr (.inr (1, 0, 0))], (I, J, R)) _ from ?_)
    refine dn_call rfl rfl rfl rfl rfl (sn_isGiven hP w (by omega) ?_)
    show tkDn tm_32 (25, [some (.inr (.inr (1, 0, 0))), some (.inl (nI u)), some (.inl (nI v)), some (.inl l), some (.inl h), some (.inl (rfF S (nI u) (nI v) l h 1))], [.inl (if gt S v < sG S then 1 else 0)], (I, J, R)) _
    refine dn_if rfl rfl rfl (fun (c2 : ¬ (if gt S v < sG S then 1 else 0) = 0) => ?_) (fun (c2 : (if gt S v < sG S then 1 else 0) = 0) => ?_)
    · show tkDn tm_32 (37, [some (.inr (.inr (1, 0, 0))), some (.inl (nI u)), some (.inl (nI v)), some (.inl l), some (.inl h), some (.inl (rfF S (nI u) (nI v) l h 1))], [], (I, J, R)) _
      refine dn_run 1 (show tkDn tm_32 (39, [some (.inr (.inr (1, 0, 0))), some (.inl (nI u)), some (.inl (nI v)), some (.inl l), some (.inl h), some (.inl (rfF S (nI u) (nI v) l h 1))], [.inl (-13)], (I, J, R)) _ from ?_)
      refine dn_ret0 rfl rfl rfl rfl ?_
      rw [show opGift S (nI u) (nI v) l h = (-13, S) by unfold opGift; rw [if_pos c1, hu2, hv2, if_pos (Or.inl (by by_cases q : gt S v < sG S; exact q; exact absurd (if_neg q) c2))]] at hQ
      have := hQ (I 1 0) hP
      rw [tk_so_id] at this
      exact this
    · show tkDn tm_32 (28, [some (.inr (.inr (1, 0, 0))), some (.inl (nI u)), some (.inl (nI v)), some (.inl l), some (.inl h), some (.inl (rfF S (nI u) (nI v) l h 1))], [], (I, J, R)) _
      have hg : ¬ gt S v < sG S := fun q => by rw [if_pos q] at c2; exact absurd c2 (by decide)
      refine dn_run 3 (show tkDn tm_32 (31, [some (.inr (.inr (1, 0, 0))), some (.inl (nI u)), some (.inl (nI v)), some (.inl l), some (.inl h), some (.inl (rfF S (nI u) (nI v) l h 1))], [.inl (nI v), .inl (nI u), .inr (.inr (1, 0, 0))], (I, J, R)) _ from ?_)
      refine dn_call rfl rfl rfl rfl rfl (sn_comesFrom hP w hu (by omega) ?_)
      show tkDn tm_32 (34, [some (.inr (.inr (1, 0, 0))), some (.inl (nI u)), some (.inl (nI v)), some (.inl l), some (.inl h), some (.inl (rfF S (nI u) (nI v) l h 1))], [.inl (if cfF S v 7 u = true then 1 else 0)], (I, J, R)) _
      refine dn_if rfl rfl rfl (fun (c3 : (if cfF S v 7 u = true then 1 else 0) = 0) => ?_) (fun (c3 : ¬ (if cfF S v 7 u = true then 1 else 0) = 0) => ?_)
      · show tkDn tm_32 (40, [some (.inr (.inr (1, 0, 0))), some (.inl (nI u)), some (.inl (nI v)), some (.inl l), some (.inl h), some (.inl (rfF S (nI u) (nI v) l h 1))], [], (I, J, R)) _
        have hc : ¬ cfF S v 7 u = true := fun q => by rw [if_pos q] at c3; exact absurd c3 (by decide)
        have hn : ¬ (gt S v < sG S ∨ cfF S v 7 u = true) := fun q => q.elim hg hc
        refine dn_run 3 (show tkDn tm_32 (46, [some (.inr (.inr (1, 0, 0))), some (.inl (nI u)), some (.inl (nI v)), some (.inl l), some (.inl h), some (.inl (rfF S (nI u) (nI v) l h 1))], [.inl 60, .inl (I 1 0 0 1)], (I, J, R)) _ from ?_)
        refine dn_if rfl rfl rfl (fun (c4 : 60 ≤ (I 1 0 0 1)) => ?_) (fun (c4 : ¬ 60 ≤ (I 1 0 0 1)) => ?_)
        · show tkDn tm_32 (58, [some (.inr (.inr (1, 0, 0))), some (.inl (nI u)), some (.inl (nI v)), some (.inl l), some (.inl h), some (.inl (rfF S (nI u) (nI v) l h 1))], [], (I, J, R)) _
          refine dn_run 1 (show tkDn tm_32 (60, [some (.inr (.inr (1, 0, 0))), some (.inl (nI u)), some (.inl (nI v)), some (.inl l), some (.inl h), some (.inl (rfF S (nI u) (nI v) l h 1))], [.inl (-14)], (I, J, R)) _ from ?_)
          refine dn_ret0 rfl rfl rfl rfl ?_
          rw [hL] at c4
          rw [show opGift S (nI u) (nI v) l h = (-14, S) by unfold opGift; rw [if_pos c1, hu2, hv2, if_neg hn, if_pos (Or.inl ((nI_leI (a := 60) (by decide) (by omega)).mp c4))]] at hQ
          have := hQ (I 1 0) hP
          rw [tk_so_id] at this
          exact this
        · show tkDn tm_32 (49, [some (.inr (.inr (1, 0, 0))), some (.inl (nI u)), some (.inl (nI v)), some (.inl l), some (.inl h), some (.inl (rfF S (nI u) (nI v) l h 1))], [], (I, J, R)) _
          rw [hL] at c4
          have hlt : sL S < 60 := Nat.lt_of_not_le (fun q => c4 (nI_le (a := 60) q (by omega)))
          refine dn_run 3 (show tkDn tm_32 (55, [some (.inr (.inr (1, 0, 0))), some (.inl (nI u)), some (.inl (nI v)), some (.inl l), some (.inl h), some (.inl (rfF S (nI u) (nI v) l h 1))], [.inl 6, .inl (I 1 0 0 2)], (I, J, R)) _ from ?_)
          refine dn_if rfl rfl rfl (fun (c5 : (I 1 0 0 2) < 6) => ?_) (fun (c5 : ¬ (I 1 0 0 2) < 6) => ?_)
          · show tkDn tm_32 (61, [some (.inr (.inr (1, 0, 0))), some (.inl (nI u)), some (.inl (nI v)), some (.inl l), some (.inl h), some (.inl (rfF S (nI u) (nI v) l h 1))], [], (I, J, R)) _
            rw [hG] at c5
            have hgt : sG S < 6 := (nI_ltI (b := 6) (by omega) (by decide)).mp c5
            rw [show opGift S (nI u) (nI v) l h = (nI (sL S), app (addG S) u v l h (nI (sG S))) by unfold opGift; rw [if_pos c1, hu2, hv2, if_neg hn, if_neg (by omega)]] at hQ
            refine dn_run 22 (show (vp_in (I 1 0 0 2) 6) ∧ tkDn tm_32 (96, [some (.inr (.inr (1, 0, 0))), some (.inl (nI u)), some (.inl (nI v)), some (.inl l), some (.inl h), some (.inl (rfF S (nI u) (nI v) l h 1))], [.inl (((I 1 0 0 2) + 1) - 1), .inl h, .inl l, .inl (nI v), .inl (nI u), .inr (.inr (1, 0, 0))], (tk_so (tk_so I 1 0 (tk_u2 (I 1 0) 9 ((I 1 0 0 2).toNatClampNeg) (I 1 0 0 1))) 1 0 (tk_u2 (tk_u2 (I 1 0) 9 ((I 1 0 0 2).toNatClampNeg) (I 1 0 0 1)) 0 2 ((I 1 0 0 2) + 1)), J, R)) _ from ⟨by rw [hG]; exact vp_in_nI hgt (by omega), ?_⟩)
            rw [tk_so_so]
            have hP2 : NetP (tk_so I 1 0 (tk_u2 (tk_u2 (I 1 0) 9 ((I 1 0 0 2).toNatClampNeg) (I 1 0 0 1)) 0 2 ((I 1 0 0 2) + 1)) 1 0) (addG S) := by rw [tk_so_same]; exact NetP_addG hP (by rw [hG, nI_clamp (by omega)]) hL (by rw [hG]; rw [nI_1])
            rw [show I 1 0 0 2 + 1 - 1 = nI (sG S) by rw [hG]; rw [nI_1, nI_sub1]]
            refine dn_call rfl rfl rfl rfl rfl (sn_append0 (S := addG S) hP2 hlt (fun X hX => ?_))
            rw [tk_so_so]
            show tkDn tm_32 (99, [some (.inr (.inr (1, 0, 0))), some (.inl (nI u)), some (.inl (nI v)), some (.inl l), some (.inl h), some (.inl (rfF S (nI u) (nI v) l h 1))], [.inl (nI (sL S))], (tk_so I 1 0 X, J, R)) _
            refine dn_ret0 rfl rfl rfl rfl ?_
            exact hQ X hX
          · show tkDn tm_32 (58, [some (.inr (.inr (1, 0, 0))), some (.inl (nI u)), some (.inl (nI v)), some (.inl l), some (.inl h), some (.inl (rfF S (nI u) (nI v) l h 1))], [], (I, J, R)) _
            refine dn_run 1 (show tkDn tm_32 (60, [some (.inr (.inr (1, 0, 0))), some (.inl (nI u)), some (.inl (nI v)), some (.inl l), some (.inl h), some (.inl (rfF S (nI u) (nI v) l h 1))], [.inl (-14)], (I, J, R)) _ from ?_)
            refine dn_ret0 rfl rfl rfl rfl ?_
            rw [hG] at c5
            rw [show opGift S (nI u) (nI v) l h = (-14, S) by unfold opGift; rw [if_pos c1, hu2, hv2, if_neg hn, if_pos (Or.inr (Nat.le_of_not_lt (fun z => c5 (nI_lt (b := 6) z (by decide)))))]] at hQ
            have := hQ (I 1 0) hP
            rw [tk_so_id] at this
            exact this
      · show tkDn tm_32 (37, [some (.inr (.inr (1, 0, 0))), some (.inl (nI u)), some (.inl (nI v)), some (.inl l), some (.inl h), some (.inl (rfF S (nI u) (nI v) l h 1))], [], (I, J, R)) _
        refine dn_run 1 (show tkDn tm_32 (39, [some (.inr (.inr (1, 0, 0))), some (.inl (nI u)), some (.inl (nI v)), some (.inl l), some (.inl h), some (.inl (rfF S (nI u) (nI v) l h 1))], [.inl (-13)], (I, J, R)) _ from ?_)
        refine dn_ret0 rfl rfl rfl rfl ?_
        rw [show opGift S (nI u) (nI v) l h = (-13, S) by unfold opGift; rw [if_pos c1, hu2, hv2, if_pos (Or.inr (by by_cases q : cfF S v 7 u = true; exact q; exact absurd (if_neg q) c3))]] at hQ
        have := hQ (I 1 0) hP
        rw [tk_so_id] at this
        exact this
  · show tkDn tm_32 (17, [some (.inr (.inr (1, 0, 0))), some (.inl u), some (.inl v), some (.inl l), some (.inl h), some (.inl (rfF S u v l h 1))], [], (I, J, R)) _
    refine dn_run 1 (show tkDn tm_32 (19, [some (.inr (.inr (1, 0, 0))), some (.inl u), some (.inl v), some (.inl l), some (.inl h), some (.inl (rfF S u v l h 1))], [.inl (rfF S u v l h 1)], (I, J, R)) _ from ?_)
    refine dn_ret0 rfl rfl rfl rfl ?_
    rw [show opGift S u v l h = (rfF S u v l h 1, S) by unfold opGift; rw [if_neg c1]] at hQ
    have := hQ (I 1 0) hP
    rw [tk_so_id] at this
    exact this
theorem sn_addGift1 {I : tkI} {J : tkJ} {R : Nat → Nat} {Q : tkQ} {S : tkS} (hP : NetP (I 1 1) S) (w : WF S) {u v l h : Int32} (hQ : ∀ X, NetP X (opGift S u v l h).2 → Q (some (.inl (opGift S u v l h).1)) (tk_so I 1 1 X, J, R)) : tkDn tm_32 (0, [some (.inr (.inr (1, 1, 0))), some (.inl u), some (.inl v), some (.inl l), some (.inl h), none], [], (I, J, R)) Q := by
  have hM16 := w.1
  have hL60 := w.2.1
  have hG6 := w.2.2.1
  have hL := hP.l
  have hG := hP.g
  refine dn_run 6 (show tkDn tm_32 (7, [some (.inr (.inr (1, 1, 0))), some (.inl u), some (.inl v), some (.inl l), some (.inl h), none], [.inl 1, .inl h, .inl l, .inl v, .inl u, .inr (.inr (1, 1, 0))], (I, J, R)) _ from ?_)
  refine dn_call rfl rfl rfl rfl rfl (sn_refuseLink hP ?_)
  show tkDn tm_32 (10, [some (.inr (.inr (1, 1, 0))), some (.inl u), some (.inl v), some (.inl l), some (.inl h), none], [.inl (rfF S u v l h 1)], (I, J, R)) _
  refine dn_run 2 (show tkDn tm_32 (14, [some (.inr (.inr (1, 1, 0))), some (.inl u), some (.inl v), some (.inl l), some (.inl h), some (.inl (rfF S u v l h 1))], [.inl (rfF S u v l h 1)], (I, J, R)) _ from ?_)
  refine dn_if rfl rfl rfl (fun (c1 : (rfF S u v l h 1) = 0) => ?_) (fun (c1 : ¬ (rfF S u v l h 1) = 0) => ?_)
  · show tkDn tm_32 (20, [some (.inr (.inr (1, 1, 0))), some (.inl u), some (.inl v), some (.inl l), some (.inl h), some (.inl (rfF S u v l h 1))], [], (I, J, R)) _
    obtain ⟨h1, h2, h3, h4⟩ := rfF_0 c1
    obtain ⟨u, hu, rfl, hu2⟩ := hasM_nat hM16 h1
    obtain ⟨v, hv, rfl, hv2⟩ := hasM_nat hM16 h2
    show tkDn tm_32 (20, [some (.inr (.inr (1, 1, 0))), some (.inl (nI u)), some (.inl (nI v)), some (.inl l), some (.inl h), some (.inl (rfF S (nI u) (nI v) l h 1))], [], (I, J, R)) _
    refine dn_run 2 (show tkDn tm_32 (22, [some (.inr (.inr (1, 1, 0))), some (.inl (nI u)), some (.inl (nI v)), some (.inl l), some (.inl h), some (.inl (rfF S (nI u) (nI v) l h 1))], [.inl (nI v), .inr (.inr (1, 1, 0))], (I, J, R)) _ from ?_)
    refine dn_call rfl rfl rfl rfl rfl (sn_isGiven hP w (by omega) ?_)
    show tkDn tm_32 (25, [some (.inr (.inr (1, 1, 0))), some (.inl (nI u)), some (.inl (nI v)), some (.inl l), some (.inl h), some (.inl (rfF S (nI u) (nI v) l h 1))], [.inl (if gt S v < sG S then 1 else 0)], (I, J, R)) _
    refine dn_if rfl rfl rfl (fun (c2 : ¬ (if gt S v < sG S then 1 else 0) = 0) => ?_) (fun (c2 : (if gt S v < sG S then 1 else 0) = 0) => ?_)
    · show tkDn tm_32 (37, [some (.inr (.inr (1, 1, 0))), some (.inl (nI u)), some (.inl (nI v)), some (.inl l), some (.inl h), some (.inl (rfF S (nI u) (nI v) l h 1))], [], (I, J, R)) _
      refine dn_run 1 (show tkDn tm_32 (39, [some (.inr (.inr (1, 1, 0))), some (.inl (nI u)), some (.inl (nI v)), some (.inl l), some (.inl h), some (.inl (rfF S (nI u) (nI v) l h 1))], [.inl (-13)], (I, J, R)) _ from ?_)
      refine dn_ret0 rfl rfl rfl rfl ?_
      rw [show opGift S (nI u) (nI v) l h = (-13, S) by unfold opGift; rw [if_pos c1, hu2, hv2, if_pos (Or.inl (by by_cases q : gt S v < sG S; exact q; exact absurd (if_neg q) c2))]] at hQ
      have := hQ (I 1 1) hP
      rw [tk_so_id] at this
      exact this
    · show tkDn tm_32 (28, [some (.inr (.inr (1, 1, 0))), some (.inl (nI u)), some (.inl (nI v)), some (.inl l), some (.inl h), some (.inl (rfF S (nI u) (nI v) l h 1))], [], (I, J, R)) _
      have hg : ¬ gt S v < sG S := fun q => by rw [if_pos q] at c2; exact absurd c2 (by decide)
      refine dn_run 3 (show tkDn tm_32 (31, [some (.inr (.inr (1, 1, 0))), some (.inl (nI u)), some (.inl (nI v)), some (.inl l), some (.inl h), some (.inl (rfF S (nI u) (nI v) l h 1))], [.inl (nI v), .inl (nI u), .inr (.inr (1, 1, 0))], (I, J, R)) _ from ?_)
      refine dn_call rfl rfl rfl rfl rfl (sn_comesFrom hP w hu (by omega) ?_)
      show tkDn tm_32 (34, [some (.inr (.inr (1, 1, 0))), some (.inl (nI u)), some (.inl (nI v)), some (.inl l), some (.inl h), some (.inl (rfF S (nI u) (nI v) l h 1))], [.inl (if cfF S v 7 u = true then 1 else 0)], (I, J, R)) _
      refine dn_if rfl rfl rfl (fun (c3 : (if cfF S v 7 u = true then 1 else 0) = 0) => ?_) (fun (c3 : ¬ (if cfF S v 7 u = true then 1 else 0) = 0) => ?_)
      · show tkDn tm_32 (40, [some (.inr (.inr (1, 1, 0))), some (.inl (nI u)), some (.inl (nI v)), some (.inl l), some (.inl h), some (.inl (rfF S (nI u) (nI v) l h 1))], [], (I, J, R)) _
        have hc : ¬ cfF S v 7 u = true := fun q => by rw [if_pos q] at c3; exact absurd c3 (by decide)
        have hn : ¬ (gt S v < sG S ∨ cfF S v 7 u = true) := fun q => q.elim hg hc
        refine dn_run 3 (show tkDn tm_32 (46, [some (.inr (.inr (1, 1, 0))), some (.inl (nI u)), some (.inl (nI v)), some (.inl l), some (.inl h), some (.inl (rfF S (nI u) (nI v) l h 1))], [.inl 60, .inl (I 1 1 0 1)], (I, J, R)) _ from ?_)
        refine dn_if rfl rfl rfl (fun (c4 : 60 ≤ (I 1 1 0 1)) => ?_) (fun (c4 : ¬ 60 ≤ (I 1 1 0 1)) => ?_)
        · show tkDn tm_32 (58, [some (.inr (.inr (1, 1, 0))), some (.inl (nI u)), some (.inl (nI v)), some (.inl l), some (.inl h), some (.inl (rfF S (nI u) (nI v) l h 1))], [], (I, J, R)) _
          refine dn_run 1 (show tkDn tm_32 (60, [some (.inr (.inr (1, 1, 0))), some (.inl (nI u)), some (.inl (nI v)), some (.inl l), some (.inl h), some (.inl (rfF S (nI u) (nI v) l h 1))], [.inl (-14)], (I, J, R)) _ from ?_)
          refine dn_ret0 rfl rfl rfl rfl ?_
          rw [hL] at c4
          rw [show opGift S (nI u) (nI v) l h = (-14, S) by unfold opGift; rw [if_pos c1, hu2, hv2, if_neg hn, if_pos (Or.inl ((nI_leI (a := 60) (by decide) (by omega)).mp c4))]] at hQ
          have := hQ (I 1 1) hP
          rw [tk_so_id] at this
          exact this
        · show tkDn tm_32 (49, [some (.inr (.inr (1, 1, 0))), some (.inl (nI u)), some (.inl (nI v)), some (.inl l), some (.inl h), some (.inl (rfF S (nI u) (nI v) l h 1))], [], (I, J, R)) _
          rw [hL] at c4
          have hlt : sL S < 60 := Nat.lt_of_not_le (fun q => c4 (nI_le (a := 60) q (by omega)))
          refine dn_run 3 (show tkDn tm_32 (55, [some (.inr (.inr (1, 1, 0))), some (.inl (nI u)), some (.inl (nI v)), some (.inl l), some (.inl h), some (.inl (rfF S (nI u) (nI v) l h 1))], [.inl 6, .inl (I 1 1 0 2)], (I, J, R)) _ from ?_)
          refine dn_if rfl rfl rfl (fun (c5 : (I 1 1 0 2) < 6) => ?_) (fun (c5 : ¬ (I 1 1 0 2) < 6) => ?_)
          · show tkDn tm_32 (61, [some (.inr (.inr (1, 1, 0))), some (.inl (nI u)), some (.inl (nI v)), some (.inl l), some (.inl h), some (.inl (rfF S (nI u) (nI v) l h 1))], [], (I, J, R)) _
            rw [hG] at c5
            have hgt : sG S < 6 := (nI_ltI (b := 6) (by omega) (by decide)).mp c5
            rw [show opGift S (nI u) (nI v) l h = (nI (sL S), app (addG S) u v l h (nI (sG S))) by unfold opGift; rw [if_pos c1, hu2, hv2, if_neg hn, if_neg (by omega)]] at hQ
            refine dn_run 22 (show (vp_in (I 1 1 0 2) 6) ∧ tkDn tm_32 (96, [some (.inr (.inr (1, 1, 0))), some (.inl (nI u)), some (.inl (nI v)), some (.inl l), some (.inl h), some (.inl (rfF S (nI u) (nI v) l h 1))], [.inl (((I 1 1 0 2) + 1) - 1), .inl h, .inl l, .inl (nI v), .inl (nI u), .inr (.inr (1, 1, 0))], (tk_so (tk_so I 1 1 (tk_u2 (I 1 1) 9 ((I 1 1 0 2).toNatClampNeg) (I 1 1 0 1))) 1 1 (tk_u2 (tk_u2 (I 1 1) 9 ((I 1 1 0 2).toNatClampNeg) (I 1 1 0 1)) 0 2 ((I 1 1 0 2) + 1)), J, R)) _ from ⟨by rw [hG]; exact vp_in_nI hgt (by omega), ?_⟩)
            rw [tk_so_so]
            have hP2 : NetP (tk_so I 1 1 (tk_u2 (tk_u2 (I 1 1) 9 ((I 1 1 0 2).toNatClampNeg) (I 1 1 0 1)) 0 2 ((I 1 1 0 2) + 1)) 1 1) (addG S) := by rw [tk_so_same]; exact NetP_addG hP (by rw [hG, nI_clamp (by omega)]) hL (by rw [hG]; rw [nI_1])
            rw [show I 1 1 0 2 + 1 - 1 = nI (sG S) by rw [hG]; rw [nI_1, nI_sub1]]
            refine dn_call rfl rfl rfl rfl rfl (sn_append1 (S := addG S) hP2 hlt (fun X hX => ?_))
            rw [tk_so_so]
            show tkDn tm_32 (99, [some (.inr (.inr (1, 1, 0))), some (.inl (nI u)), some (.inl (nI v)), some (.inl l), some (.inl h), some (.inl (rfF S (nI u) (nI v) l h 1))], [.inl (nI (sL S))], (tk_so I 1 1 X, J, R)) _
            refine dn_ret0 rfl rfl rfl rfl ?_
            exact hQ X hX
          · show tkDn tm_32 (58, [some (.inr (.inr (1, 1, 0))), some (.inl (nI u)), some (.inl (nI v)), some (.inl l), some (.inl h), some (.inl (rfF S (nI u) (nI v) l h 1))], [], (I, J, R)) _
            refine dn_run 1 (show tkDn tm_32 (60, [some (.inr (.inr (1, 1, 0))), some (.inl (nI u)), some (.inl (nI v)), some (.inl l), some (.inl h), some (.inl (rfF S (nI u) (nI v) l h 1))], [.inl (-14)], (I, J, R)) _ from ?_)
            refine dn_ret0 rfl rfl rfl rfl ?_
            rw [hG] at c5
            rw [show opGift S (nI u) (nI v) l h = (-14, S) by unfold opGift; rw [if_pos c1, hu2, hv2, if_neg hn, if_pos (Or.inr (Nat.le_of_not_lt (fun z => c5 (nI_lt (b := 6) z (by decide)))))]] at hQ
            have := hQ (I 1 1) hP
            rw [tk_so_id] at this
            exact this
      · show tkDn tm_32 (37, [some (.inr (.inr (1, 1, 0))), some (.inl (nI u)), some (.inl (nI v)), some (.inl l), some (.inl h), some (.inl (rfF S (nI u) (nI v) l h 1))], [], (I, J, R)) _
        refine dn_run 1 (show tkDn tm_32 (39, [some (.inr (.inr (1, 1, 0))), some (.inl (nI u)), some (.inl (nI v)), some (.inl l), some (.inl h), some (.inl (rfF S (nI u) (nI v) l h 1))], [.inl (-13)], (I, J, R)) _ from ?_)
        refine dn_ret0 rfl rfl rfl rfl ?_
        rw [show opGift S (nI u) (nI v) l h = (-13, S) by unfold opGift; rw [if_pos c1, hu2, hv2, if_pos (Or.inr (by by_cases q : cfF S v 7 u = true; exact q; exact absurd (if_neg q) c3))]] at hQ
        have := hQ (I 1 1) hP
        rw [tk_so_id] at this
        exact this
  · show tkDn tm_32 (17, [some (.inr (.inr (1, 1, 0))), some (.inl u), some (.inl v), some (.inl l), some (.inl h), some (.inl (rfF S u v l h 1))], [], (I, J, R)) _
    refine dn_run 1 (show tkDn tm_32 (19, [some (.inr (.inr (1, 1, 0))), some (.inl u), some (.inl v), some (.inl l), some (.inl h), some (.inl (rfF S u v l h 1))], [.inl (rfF S u v l h 1)], (I, J, R)) _ from ?_)
    refine dn_ret0 rfl rfl rfl rfl ?_
    rw [show opGift S u v l h = (rfF S u v l h 1, S) by unfold opGift; rw [if_neg c1]] at hQ
    have := hQ (I 1 1) hP
    rw [tk_so_id] at this
    exact this
theorem sn_addGift {I : tkI} {J : tkJ} {R : Nat → Nat} {b : Nat} (hb : b < 2) {Q : tkQ} {S : tkS} (hP : NetP (I 1 b) S) (w : WF S) {u v l h : Int32} (hQ : ∀ X, NetP X (opGift S u v l h).2 → Q (some (.inl (opGift S u v l h).1)) (tk_so I 1 b X, J, R)) : tkDn tm_32 (0, [some (.inr (.inr (1, b, 0))), some (.inl u), some (.inl v), some (.inl l), some (.inl h), none], [], (I, J, R)) Q := by
  match b, hb with
  | 0, _ => exact sn_addGift0 hP w hQ
  | 1, _ => exact sn_addGift1 hP w hQ
theorem sn_dropLastLink0 {I : tkI} {J : tkJ} {R : Nat → Nat} {Q : tkQ} {S : tkS} (hP : NetP (I 1 0) S) (w : WF S) (hQ : ∀ X, NetP X (opUndo S).2 → Q (some (.inl (opUndo S).1)) (tk_so I 1 0 X, J, R)) : tkDn tm_33 (0, [some (.inr (.inr (1, 0, 0)))], [], (I, J, R)) Q := by
  have hL60 := w.2.1
  have hG6 := w.2.2.1
  have hL := hP.l
  have hG := hP.g
  refine dn_run 2 (show tkDn tm_33 (4, [some (.inr (.inr (1, 0, 0)))], [.inl (I 1 0 0 1)], (I, J, R)) _ from ?_)
  refine dn_if rfl rfl rfl (fun (c1 : ¬ (I 1 0 0 1) = 0) => ?_) (fun (c1 : (I 1 0 0 1) = 0) => ?_)
  · show tkDn tm_33 (10, [some (.inr (.inr (1, 0, 0)))], [], (I, J, R)) _
    rw [hL] at c1
    have h0 : 0 < sL S := Nat.pos_of_ne_zero (fun q => c1 (by rw [q]; rfl))
    have e1 : I 1 0 0 1 - 1 = nI (sL S - 1) := by rw [hL]; obtain ⟨n, hn⟩ : ∃ n, sL S = n + 1 := ⟨sL S - 1, by omega⟩; rw [hn]; exact nI_sub1
    have e2 : I 1 0 8 (nI (sL S - 1)).toNatClampNeg = sgn S (sL S - 1) := hP.gn w (by omega)
    refine dn_run 6 (show tkDn tm_33 (20, [some (.inr (.inr (1, 0, 0)))], [], (tk_so I 1 0 (tk_u2 (I 1 0) 0 1 ((I 1 0 0 1) - 1)), J, R)) _ from ?_)
    rw [e1]
    show tkDn tm_33 (20, [some (.inr (.inr (1, 0, 0)))], [], (tk_so I 1 0 (tk_u2 (I 1 0) 0 1 (nI (sL S - 1))), J, R)) _
    refine dn_run 3 (show tkDn tm_33 (25, [some (.inr (.inr (1, 0, 0)))], [.inl (nI (sL S - 1)), .inr (.inr (1, 0, 0))], (tk_so I 1 0 (tk_u2 (I 1 0) 0 1 (nI (sL S - 1))), J, R)) _ from ?_)
    refine dn_call rfl rfl rfl rfl rfl (sn_isGift (vp_in_nI (by omega) (by omega)) ?_)
    show tkDn tm_33 (28, [some (.inr (.inr (1, 0, 0)))], [.inl (if I 1 0 8 (nI (sL S - 1)).toNatClampNeg = -9 then 0 else 1)], (tk_so I 1 0 (tk_u2 (I 1 0) 0 1 (nI (sL S - 1))), J, R)) _
    rw [e2]
    refine dn_if rfl rfl rfl (fun (c2 : (if sgn S (sL S - 1) = -9 then 0 else 1) = 0) => ?_) (fun (c2 : ¬ (if sgn S (sL S - 1) = -9 then 0 else 1) = 0) => ?_)
    · show tkDn tm_33 (41, [some (.inr (.inr (1, 0, 0)))], [], (tk_so I 1 0 (tk_u2 (I 1 0) 0 1 (nI (sL S - 1))), J, R)) _
      have hs : sgn S (sL S - 1) = -9 := by by_cases q : sgn S (sL S - 1) = -9; exact q; rw [if_neg q] at c2; exact absurd c2 (by decide)
      refine dn_run 2 (show tkDn tm_33 (45, [some (.inr (.inr (1, 0, 0)))], [.inl (nI (sL S - 1))], (tk_so I 1 0 (tk_u2 (I 1 0) 0 1 (nI (sL S - 1))), J, R)) _ from ?_)
      refine dn_ret0 rfl rfl rfl rfl ?_
      rw [show opUndo S = (nI (sL S - 1), (sM S, sL S - 1, sG S, S.2.2.2)) by unfold opUndo; rw [if_neg (by omega), if_pos hs]] at hQ
      exact hQ _ (NetP_undo1 hP h0 rfl)
    · show tkDn tm_33 (31, [some (.inr (.inr (1, 0, 0)))], [], (tk_so I 1 0 (tk_u2 (I 1 0) 0 1 (nI (sL S - 1))), J, R)) _
      have hs : ¬ sgn S (sL S - 1) = -9 := fun q => by rw [if_pos q] at c2; exact c2 rfl
      have hg0 : 0 < sG S := by rcases (w.2.2.2.1 (sL S - 1) (by omega)).2.2.2.2 with q | ⟨g, q, -⟩; exact absurd q hs; omega
      have e3 : I 1 0 0 2 - 1 = nI (sG S - 1) := by rw [hG]; obtain ⟨n, hn⟩ : ∃ n, sG S = n + 1 := ⟨sG S - 1, by omega⟩; rw [hn]; exact nI_sub1
      refine dn_run 8 (show tkDn tm_33 (45, [some (.inr (.inr (1, 0, 0)))], [.inl (nI (sL S - 1))], (tk_so (tk_so I 1 0 (tk_u2 (I 1 0) 0 1 (nI (sL S - 1)))) 1 0 (tk_u2 (tk_u2 (I 1 0) 0 1 (nI (sL S - 1))) 0 2 ((I 1 0 0 2) - 1)), J, R)) _ from ?_)
      rw [tk_so_so]
      refine dn_ret0 rfl rfl rfl rfl ?_
      rw [show opUndo S = (nI (sL S - 1), (sM S, sL S - 1, sG S - 1, S.2.2.2)) by unfold opUndo; rw [if_neg (by omega), if_neg hs]] at hQ
      exact hQ _ (NetP_undo hP (by omega) h0 rfl e3)
  · show tkDn tm_33 (7, [some (.inr (.inr (1, 0, 0)))], [], (I, J, R)) _
    refine dn_run 1 (show tkDn tm_33 (9, [some (.inr (.inr (1, 0, 0)))], [.inl (-13)], (I, J, R)) _ from ?_)
    refine dn_ret0 rfl rfl rfl rfl ?_
    rw [hL] at c1
    have h0 : sL S = 0 := (nI_eq (b := 0) (by omega) (by decide)).mp c1
    rw [show opUndo S = (-13, S) by unfold opUndo; rw [if_pos h0]] at hQ
    have := hQ (I 1 0) hP
    rw [tk_so_id] at this
    exact this
theorem sn_dropLastLink1 {I : tkI} {J : tkJ} {R : Nat → Nat} {Q : tkQ} {S : tkS} (hP : NetP (I 1 1) S) (w : WF S) (hQ : ∀ X, NetP X (opUndo S).2 → Q (some (.inl (opUndo S).1)) (tk_so I 1 1 X, J, R)) : tkDn tm_33 (0, [some (.inr (.inr (1, 1, 0)))], [], (I, J, R)) Q := by
  have hL60 := w.2.1
  have hG6 := w.2.2.1
  have hL := hP.l
  have hG := hP.g
  refine dn_run 2 (show tkDn tm_33 (4, [some (.inr (.inr (1, 1, 0)))], [.inl (I 1 1 0 1)], (I, J, R)) _ from ?_)
  refine dn_if rfl rfl rfl (fun (c1 : ¬ (I 1 1 0 1) = 0) => ?_) (fun (c1 : (I 1 1 0 1) = 0) => ?_)
  · show tkDn tm_33 (10, [some (.inr (.inr (1, 1, 0)))], [], (I, J, R)) _
    rw [hL] at c1
    have h0 : 0 < sL S := Nat.pos_of_ne_zero (fun q => c1 (by rw [q]; rfl))
    have e1 : I 1 1 0 1 - 1 = nI (sL S - 1) := by rw [hL]; obtain ⟨n, hn⟩ : ∃ n, sL S = n + 1 := ⟨sL S - 1, by omega⟩; rw [hn]; exact nI_sub1
    have e2 : I 1 1 8 (nI (sL S - 1)).toNatClampNeg = sgn S (sL S - 1) := hP.gn w (by omega)
    refine dn_run 6 (show tkDn tm_33 (20, [some (.inr (.inr (1, 1, 0)))], [], (tk_so I 1 1 (tk_u2 (I 1 1) 0 1 ((I 1 1 0 1) - 1)), J, R)) _ from ?_)
    rw [e1]
    show tkDn tm_33 (20, [some (.inr (.inr (1, 1, 0)))], [], (tk_so I 1 1 (tk_u2 (I 1 1) 0 1 (nI (sL S - 1))), J, R)) _
    refine dn_run 3 (show tkDn tm_33 (25, [some (.inr (.inr (1, 1, 0)))], [.inl (nI (sL S - 1)), .inr (.inr (1, 1, 0))], (tk_so I 1 1 (tk_u2 (I 1 1) 0 1 (nI (sL S - 1))), J, R)) _ from ?_)
    refine dn_call rfl rfl rfl rfl rfl (sn_isGift (vp_in_nI (by omega) (by omega)) ?_)
    show tkDn tm_33 (28, [some (.inr (.inr (1, 1, 0)))], [.inl (if I 1 1 8 (nI (sL S - 1)).toNatClampNeg = -9 then 0 else 1)], (tk_so I 1 1 (tk_u2 (I 1 1) 0 1 (nI (sL S - 1))), J, R)) _
    rw [e2]
    refine dn_if rfl rfl rfl (fun (c2 : (if sgn S (sL S - 1) = -9 then 0 else 1) = 0) => ?_) (fun (c2 : ¬ (if sgn S (sL S - 1) = -9 then 0 else 1) = 0) => ?_)
    · show tkDn tm_33 (41, [some (.inr (.inr (1, 1, 0)))], [], (tk_so I 1 1 (tk_u2 (I 1 1) 0 1 (nI (sL S - 1))), J, R)) _
      have hs : sgn S (sL S - 1) = -9 := by by_cases q : sgn S (sL S - 1) = -9; exact q; rw [if_neg q] at c2; exact absurd c2 (by decide)
      refine dn_run 2 (show tkDn tm_33 (45, [some (.inr (.inr (1, 1, 0)))], [.inl (nI (sL S - 1))], (tk_so I 1 1 (tk_u2 (I 1 1) 0 1 (nI (sL S - 1))), J, R)) _ from ?_)
      refine dn_ret0 rfl rfl rfl rfl ?_
      rw [show opUndo S = (nI (sL S - 1), (sM S, sL S - 1, sG S, S.2.2.2)) by unfold opUndo; rw [if_neg (by omega), if_pos hs]] at hQ
      exact hQ _ (NetP_undo1 hP h0 rfl)
    · show tkDn tm_33 (31, [some (.inr (.inr (1, 1, 0)))], [], (tk_so I 1 1 (tk_u2 (I 1 1) 0 1 (nI (sL S - 1))), J, R)) _
      have hs : ¬ sgn S (sL S - 1) = -9 := fun q => by rw [if_pos q] at c2; exact c2 rfl
      have hg0 : 0 < sG S := by rcases (w.2.2.2.1 (sL S - 1) (by omega)).2.2.2.2 with q | ⟨g, q, -⟩; exact absurd q hs; omega
      have e3 : I 1 1 0 2 - 1 = nI (sG S - 1) := by rw [hG]; obtain ⟨n, hn⟩ : ∃ n, sG S = n + 1 := ⟨sG S - 1, by omega⟩; rw [hn]; exact nI_sub1
      refine dn_run 8 (show tkDn tm_33 (45, [some (.inr (.inr (1, 1, 0)))], [.inl (nI (sL S - 1))], (tk_so (tk_so I 1 1 (tk_u2 (I 1 1) 0 1 (nI (sL S - 1)))) 1 1 (tk_u2 (tk_u2 (I 1 1) 0 1 (nI (sL S - 1))) 0 2 ((I 1 1 0 2) - 1)), J, R)) _ from ?_)
      rw [tk_so_so]
      refine dn_ret0 rfl rfl rfl rfl ?_
      rw [show opUndo S = (nI (sL S - 1), (sM S, sL S - 1, sG S - 1, S.2.2.2)) by unfold opUndo; rw [if_neg (by omega), if_neg hs]] at hQ
      exact hQ _ (NetP_undo hP (by omega) h0 rfl e3)
  · show tkDn tm_33 (7, [some (.inr (.inr (1, 1, 0)))], [], (I, J, R)) _
    refine dn_run 1 (show tkDn tm_33 (9, [some (.inr (.inr (1, 1, 0)))], [.inl (-13)], (I, J, R)) _ from ?_)
    refine dn_ret0 rfl rfl rfl rfl ?_
    rw [hL] at c1
    have h0 : sL S = 0 := (nI_eq (b := 0) (by omega) (by decide)).mp c1
    rw [show opUndo S = (-13, S) by unfold opUndo; rw [if_pos h0]] at hQ
    have := hQ (I 1 1) hP
    rw [tk_so_id] at this
    exact this
theorem sn_dropLastLink {I : tkI} {J : tkJ} {R : Nat → Nat} {b : Nat} (hb : b < 2) {Q : tkQ} {S : tkS} (hP : NetP (I 1 b) S) (w : WF S) (hQ : ∀ X, NetP X (opUndo S).2 → Q (some (.inl (opUndo S).1)) (tk_so I 1 b X, J, R)) : tkDn tm_33 (0, [some (.inr (.inr (1, b, 0)))], [], (I, J, R)) Q := by
  match b, hb with
  | 0, _ => exact sn_dropLastLink0 hP w hQ
  | 1, _ => exact sn_dropLastLink1 hP w hQ
theorem sn_setBounds0 {I : tkI} {J : tkJ} {R : Nat → Nat} {Q : tkQ} {S : tkS} (hP : NetP (I 1 0) S) (w : WF S) {k l h : Int32} (hQ : ∀ X, NetP X (opTight S k l h).2 → Q (some (.inl (opTight S k l h).1)) (tk_so I 1 0 X, J, R)) : tkDn tm_34 (0, [some (.inr (.inr (1, 0, 0))), some (.inl k), some (.inl l), some (.inl h)], [], (I, J, R)) Q := by
  have hL60 := w.2.1
  have hL := hP.l
  refine dn_run 2 (show tkDn tm_34 (2, [some (.inr (.inr (1, 0, 0))), some (.inl k), some (.inl l), some (.inl h)], [.inl k, .inr (.inr (1, 0, 0))], (I, J, R)) _ from ?_)
  refine dn_call rfl rfl rfl rfl rfl (sn_hasLink ?_)
  show tkDn tm_34 (5, [some (.inr (.inr (1, 0, 0))), some (.inl k), some (.inl l), some (.inl h)], [.inl (if 0 ≤ k ∧ k < I 1 0 0 1 then 1 else 0)], (I, J, R)) _
  rw [hL]
  refine dn_if rfl rfl rfl (fun (c1 : ¬ (if 0 ≤ k ∧ k < nI (sL S) then 1 else 0) = 0) => ?_) (fun (c1 : (if 0 ≤ k ∧ k < nI (sL S) then 1 else 0) = 0) => ?_)
  · show tkDn tm_34 (11, [some (.inr (.inr (1, 0, 0))), some (.inl k), some (.inl l), some (.inl h)], [], (I, J, R)) _
    have hk : 0 ≤ k ∧ k < nI (sL S) := by by_cases q : 0 ≤ k ∧ k < nI (sL S); exact q; exact absurd (if_neg q) c1
    obtain ⟨j, hj, rfl⟩ := hasL_nat hL60 hk
    have e2 := hP.gn w hj
    have hcl : (nI j).toNatClampNeg = j := nI_clamp (by omega)
    refine dn_run 4 (show tkDn tm_34 (15, [some (.inr (.inr (1, 0, 0))), some (.inl (nI j)), some (.inl l), some (.inl h)], [.inl (nI j), .inr (.inr (1, 0, 0)), .inl h, .inl l], (I, J, R)) _ from ?_)
    refine dn_call rfl rfl rfl rfl rfl (sn_isGift (vp_in_nI (by omega) (by omega)) ?_)
    show tkDn tm_34 (18, [some (.inr (.inr (1, 0, 0))), some (.inl (nI j)), some (.inl l), some (.inl h)], [.inl (if I 1 0 8 (nI j).toNatClampNeg = -9 then 0 else 1), .inl h, .inl l], (I, J, R)) _
    rw [e2]
    refine dn_if rfl rfl rfl (fun (c2 : (if sgn S j = -9 then 0 else 1) = 0) => ?_) (fun (c2 : ¬ (if sgn S j = -9 then 0 else 1) = 0) => ?_)
    · show tkDn tm_34 (25, [some (.inr (.inr (1, 0, 0))), some (.inl (nI j)), some (.inl l), some (.inl h)], [.inl h, .inl l], (I, J, R)) _
      have hs : sgn S j = -9 := by by_cases q : sgn S j = -9; exact q; rw [if_neg q] at c2; exact absurd c2 (by decide)
      refine dn_run 1 (show tkDn tm_34 (27, [some (.inr (.inr (1, 0, 0))), some (.inl (nI j)), some (.inl l), some (.inl h)], [.inl (-100000), .inl h, .inl l], (I, J, R)) _ from ?_)
      refine dn_call rfl rfl rfl rfl rfl (sn_fits ?_)
      show tkDn tm_34 (30, [some (.inr (.inr (1, 0, 0))), some (.inl (nI j)), some (.inl l), some (.inl h)], [.inl (if fitB l h (-100000) then 1 else 0)], (I, J, R)) _
      refine dn_if rfl rfl rfl (fun (c3 : ¬ (if fitB l h (-100000) then 1 else 0) = 0) => ?_) (fun (c3 : (if fitB l h (-100000) then 1 else 0) = 0) => ?_)
      · show tkDn tm_34 (36, [some (.inr (.inr (1, 0, 0))), some (.inl (nI j)), some (.inl l), some (.inl h)], [], (I, J, R)) _
        have hf : fitB l h (-100000) := by by_cases q : fitB l h (-100000); exact q; exact absurd (if_neg q) c3
        refine dn_run 11 (show (vp_in (nI j) 60) ∧ (vp_in (nI j) 60) ∧ tkDn tm_34 (51, [some (.inr (.inr (1, 0, 0))), some (.inl (nI j)), some (.inl l), some (.inl h)], [.inl 1], (tk_so (tk_so I 1 0 (tk_u2 (I 1 0) 6 ((nI j).toNatClampNeg) l)) 1 0 (tk_u2 (tk_u2 (I 1 0) 6 ((nI j).toNatClampNeg) l) 7 ((nI j).toNatClampNeg) h), J, R)) _ from ⟨vp_in_nI (by omega) (by omega), vp_in_nI (by omega) (by omega), ?_⟩)
        rw [tk_so_so]
        refine dn_ret0 rfl rfl rfl rfl ?_
        rw [show opTight S (nI j) l h = (1, (sM S, sL S, sG S, sf S, se S, tk_u1 (slo S) j l, tk_u1 (shi S) j h, sgn S, sgl S)) by unfold opTight; rw [if_pos hk, hcl, if_pos hs, if_pos hf]] at hQ
        rw [hcl]
        exact hQ _ (NetP_tight hP)
      · show tkDn tm_34 (33, [some (.inr (.inr (1, 0, 0))), some (.inl (nI j)), some (.inl l), some (.inl h)], [], (I, J, R)) _
        refine dn_run 1 (show tkDn tm_34 (35, [some (.inr (.inr (1, 0, 0))), some (.inl (nI j)), some (.inl l), some (.inl h)], [.inl (-12)], (I, J, R)) _ from ?_)
        refine dn_ret0 rfl rfl rfl rfl ?_
        have hf : ¬ fitB l h (-100000) := fun q => by rw [if_pos q] at c3; exact absurd c3 (by decide)
        rw [show opTight S (nI j) l h = (-12, S) by unfold opTight; rw [if_pos hk, hcl, if_pos hs, if_neg hf]] at hQ
        have := hQ (I 1 0) hP
        rw [tk_so_id] at this
        exact this
    · show tkDn tm_34 (21, [some (.inr (.inr (1, 0, 0))), some (.inl (nI j)), some (.inl l), some (.inl h)], [.inl h, .inl l], (I, J, R)) _
      have hs : ¬ sgn S j = -9 := fun q => by rw [if_pos q] at c2; exact c2 rfl
      refine dn_run 2 (show tkDn tm_34 (27, [some (.inr (.inr (1, 0, 0))), some (.inl (nI j)), some (.inl l), some (.inl h)], [.inl 1, .inl h, .inl l], (I, J, R)) _ from ?_)
      refine dn_call rfl rfl rfl rfl rfl (sn_fits ?_)
      show tkDn tm_34 (30, [some (.inr (.inr (1, 0, 0))), some (.inl (nI j)), some (.inl l), some (.inl h)], [.inl (if fitB l h 1 then 1 else 0)], (I, J, R)) _
      refine dn_if rfl rfl rfl (fun (c3 : ¬ (if fitB l h 1 then 1 else 0) = 0) => ?_) (fun (c3 : (if fitB l h 1 then 1 else 0) = 0) => ?_)
      · show tkDn tm_34 (36, [some (.inr (.inr (1, 0, 0))), some (.inl (nI j)), some (.inl l), some (.inl h)], [], (I, J, R)) _
        have hf : fitB l h 1 := by by_cases q : fitB l h 1; exact q; exact absurd (if_neg q) c3
        refine dn_run 11 (show (vp_in (nI j) 60) ∧ (vp_in (nI j) 60) ∧ tkDn tm_34 (51, [some (.inr (.inr (1, 0, 0))), some (.inl (nI j)), some (.inl l), some (.inl h)], [.inl 1], (tk_so (tk_so I 1 0 (tk_u2 (I 1 0) 6 ((nI j).toNatClampNeg) l)) 1 0 (tk_u2 (tk_u2 (I 1 0) 6 ((nI j).toNatClampNeg) l) 7 ((nI j).toNatClampNeg) h), J, R)) _ from ⟨vp_in_nI (by omega) (by omega), vp_in_nI (by omega) (by omega), ?_⟩)
        rw [tk_so_so]
        refine dn_ret0 rfl rfl rfl rfl ?_
        rw [show opTight S (nI j) l h = (1, (sM S, sL S, sG S, sf S, se S, tk_u1 (slo S) j l, tk_u1 (shi S) j h, sgn S, sgl S)) by unfold opTight; rw [if_pos hk, hcl, if_neg hs, if_pos hf]] at hQ
        rw [hcl]
        exact hQ _ (NetP_tight hP)
      · show tkDn tm_34 (33, [some (.inr (.inr (1, 0, 0))), some (.inl (nI j)), some (.inl l), some (.inl h)], [], (I, J, R)) _
        refine dn_run 1 (show tkDn tm_34 (35, [some (.inr (.inr (1, 0, 0))), some (.inl (nI j)), some (.inl l), some (.inl h)], [.inl (-12)], (I, J, R)) _ from ?_)
        refine dn_ret0 rfl rfl rfl rfl ?_
        have hf : ¬ fitB l h 1 := fun q => by rw [if_pos q] at c3; exact absurd c3 (by decide)
        rw [show opTight S (nI j) l h = (-12, S) by unfold opTight; rw [if_pos hk, hcl, if_neg hs, if_neg hf]] at hQ
        have := hQ (I 1 0) hP
        rw [tk_so_id] at this
        exact this
  · show tkDn tm_34 (8, [some (.inr (.inr (1, 0, 0))), some (.inl k), some (.inl l), some (.inl h)], [], (I, J, R)) _
    refine dn_run 1 (show tkDn tm_34 (10, [some (.inr (.inr (1, 0, 0))), some (.inl k), some (.inl l), some (.inl h)], [.inl (-11)], (I, J, R)) _ from ?_)
    refine dn_ret0 rfl rfl rfl rfl ?_
    rw [show opTight S k l h = (-11, S) by unfold opTight; rw [if_neg (fun q => by rw [if_pos q] at c1; exact absurd c1 (by decide))]] at hQ
    have := hQ (I 1 0) hP
    rw [tk_so_id] at this
    exact this
theorem sn_setBounds1 {I : tkI} {J : tkJ} {R : Nat → Nat} {Q : tkQ} {S : tkS} (hP : NetP (I 1 1) S) (w : WF S) {k l h : Int32} (hQ : ∀ X, NetP X (opTight S k l h).2 → Q (some (.inl (opTight S k l h).1)) (tk_so I 1 1 X, J, R)) : tkDn tm_34 (0, [some (.inr (.inr (1, 1, 0))), some (.inl k), some (.inl l), some (.inl h)], [], (I, J, R)) Q := by
  have hL60 := w.2.1
  have hL := hP.l
  refine dn_run 2 (show tkDn tm_34 (2, [some (.inr (.inr (1, 1, 0))), some (.inl k), some (.inl l), some (.inl h)], [.inl k, .inr (.inr (1, 1, 0))], (I, J, R)) _ from ?_)
  refine dn_call rfl rfl rfl rfl rfl (sn_hasLink ?_)
  show tkDn tm_34 (5, [some (.inr (.inr (1, 1, 0))), some (.inl k), some (.inl l), some (.inl h)], [.inl (if 0 ≤ k ∧ k < I 1 1 0 1 then 1 else 0)], (I, J, R)) _
  rw [hL]
  refine dn_if rfl rfl rfl (fun (c1 : ¬ (if 0 ≤ k ∧ k < nI (sL S) then 1 else 0) = 0) => ?_) (fun (c1 : (if 0 ≤ k ∧ k < nI (sL S) then 1 else 0) = 0) => ?_)
  · show tkDn tm_34 (11, [some (.inr (.inr (1, 1, 0))), some (.inl k), some (.inl l), some (.inl h)], [], (I, J, R)) _
    have hk : 0 ≤ k ∧ k < nI (sL S) := by by_cases q : 0 ≤ k ∧ k < nI (sL S); exact q; exact absurd (if_neg q) c1
    obtain ⟨j, hj, rfl⟩ := hasL_nat hL60 hk
    have e2 := hP.gn w hj
    have hcl : (nI j).toNatClampNeg = j := nI_clamp (by omega)
    refine dn_run 4 (show tkDn tm_34 (15, [some (.inr (.inr (1, 1, 0))), some (.inl (nI j)), some (.inl l), some (.inl h)], [.inl (nI j), .inr (.inr (1, 1, 0)), .inl h, .inl l], (I, J, R)) _ from ?_)
    refine dn_call rfl rfl rfl rfl rfl (sn_isGift (vp_in_nI (by omega) (by omega)) ?_)
    show tkDn tm_34 (18, [some (.inr (.inr (1, 1, 0))), some (.inl (nI j)), some (.inl l), some (.inl h)], [.inl (if I 1 1 8 (nI j).toNatClampNeg = -9 then 0 else 1), .inl h, .inl l], (I, J, R)) _
    rw [e2]
    refine dn_if rfl rfl rfl (fun (c2 : (if sgn S j = -9 then 0 else 1) = 0) => ?_) (fun (c2 : ¬ (if sgn S j = -9 then 0 else 1) = 0) => ?_)
    · show tkDn tm_34 (25, [some (.inr (.inr (1, 1, 0))), some (.inl (nI j)), some (.inl l), some (.inl h)], [.inl h, .inl l], (I, J, R)) _
      have hs : sgn S j = -9 := by by_cases q : sgn S j = -9; exact q; rw [if_neg q] at c2; exact absurd c2 (by decide)
      refine dn_run 1 (show tkDn tm_34 (27, [some (.inr (.inr (1, 1, 0))), some (.inl (nI j)), some (.inl l), some (.inl h)], [.inl (-100000), .inl h, .inl l], (I, J, R)) _ from ?_)
      refine dn_call rfl rfl rfl rfl rfl (sn_fits ?_)
      show tkDn tm_34 (30, [some (.inr (.inr (1, 1, 0))), some (.inl (nI j)), some (.inl l), some (.inl h)], [.inl (if fitB l h (-100000) then 1 else 0)], (I, J, R)) _
      refine dn_if rfl rfl rfl (fun (c3 : ¬ (if fitB l h (-100000) then 1 else 0) = 0) => ?_) (fun (c3 : (if fitB l h (-100000) then 1 else 0) = 0) => ?_)
      · show tkDn tm_34 (36, [some (.inr (.inr (1, 1, 0))), some (.inl (nI j)), some (.inl l), some (.inl h)], [], (I, J, R)) _
        have hf : fitB l h (-100000) := by by_cases q : fitB l h (-100000); exact q; exact absurd (if_neg q) c3
        refine dn_run 11 (show (vp_in (nI j) 60) ∧ (vp_in (nI j) 60) ∧ tkDn tm_34 (51, [some (.inr (.inr (1, 1, 0))), some (.inl (nI j)), some (.inl l), some (.inl h)], [.inl 1], (tk_so (tk_so I 1 1 (tk_u2 (I 1 1) 6 ((nI j).toNatClampNeg) l)) 1 1 (tk_u2 (tk_u2 (I 1 1) 6 ((nI j).toNatClampNeg) l) 7 ((nI j).toNatClampNeg) h), J, R)) _ from ⟨vp_in_nI (by omega) (by omega), vp_in_nI (by omega) (by omega), ?_⟩)
        rw [tk_so_so]
        refine dn_ret0 rfl rfl rfl rfl ?_
        rw [show opTight S (nI j) l h = (1, (sM S, sL S, sG S, sf S, se S, tk_u1 (slo S) j l, tk_u1 (shi S) j h, sgn S, sgl S)) by unfold opTight; rw [if_pos hk, hcl, if_pos hs, if_pos hf]] at hQ
        rw [hcl]
        exact hQ _ (NetP_tight hP)
      · show tkDn tm_34 (33, [some (.inr (.inr (1, 1, 0))), some (.inl (nI j)), some (.inl l), some (.inl h)], [], (I, J, R)) _
        refine dn_run 1 (show tkDn tm_34 (35, [some (.inr (.inr (1, 1, 0))), some (.inl (nI j)), some (.inl l), some (.inl h)], [.inl (-12)], (I, J, R)) _ from ?_)
        refine dn_ret0 rfl rfl rfl rfl ?_
        have hf : ¬ fitB l h (-100000) := fun q => by rw [if_pos q] at c3; exact absurd c3 (by decide)
        rw [show opTight S (nI j) l h = (-12, S) by unfold opTight; rw [if_pos hk, hcl, if_pos hs, if_neg hf]] at hQ
        have := hQ (I 1 1) hP
        rw [tk_so_id] at this
        exact this
    · show tkDn tm_34 (21, [some (.inr (.inr (1, 1, 0))), some (.inl (nI j)), some (.inl l), some (.inl h)], [.inl h, .inl l], (I, J, R)) _
      have hs : ¬ sgn S j = -9 := fun q => by rw [if_pos q] at c2; exact c2 rfl
      refine dn_run 2 (show tkDn tm_34 (27, [some (.inr (.inr (1, 1, 0))), some (.inl (nI j)), some (.inl l), some (.inl h)], [.inl 1, .inl h, .inl l], (I, J, R)) _ from ?_)
      refine dn_call rfl rfl rfl rfl rfl (sn_fits ?_)
      show tkDn tm_34 (30, [some (.inr (.inr (1, 1, 0))), some (.inl (nI j)), some (.inl l), some (.inl h)], [.inl (if fitB l h 1 then 1 else 0)], (I, J, R)) _
      refine dn_if rfl rfl rfl (fun (c3 : ¬ (if fitB l h 1 then 1 else 0) = 0) => ?_) (fun (c3 : (if fitB l h 1 then 1 else 0) = 0) => ?_)
      · show tkDn tm_34 (36, [some (.inr (.inr (1, 1, 0))), some (.inl (nI j)), some (.inl l), some (.inl h)], [], (I, J, R)) _
        have hf : fitB l h 1 := by by_cases q : fitB l h 1; exact q; exact absurd (if_neg q) c3
        refine dn_run 11 (show (vp_in (nI j) 60) ∧ (vp_in (nI j) 60) ∧ tkDn tm_34 (51, [some (.inr (.inr (1, 1, 0))), some (.inl (nI j)), some (.inl l), some (.inl h)], [.inl 1], (tk_so (tk_so I 1 1 (tk_u2 (I 1 1) 6 ((nI j).toNatClampNeg) l)) 1 1 (tk_u2 (tk_u2 (I 1 1) 6 ((nI j).toNatClampNeg) l) 7 ((nI j).toNatClampNeg) h), J, R)) _ from ⟨vp_in_nI (by omega) (by omega), vp_in_nI (by omega) (by omega), ?_⟩)
        rw [tk_so_so]
        refine dn_ret0 rfl rfl rfl rfl ?_
        rw [show opTight S (nI j) l h = (1, (sM S, sL S, sG S, sf S, se S, tk_u1 (slo S) j l, tk_u1 (shi S) j h, sgn S, sgl S)) by unfold opTight; rw [if_pos hk, hcl, if_neg hs, if_pos hf]] at hQ
        rw [hcl]
        exact hQ _ (NetP_tight hP)
      · show tkDn tm_34 (33, [some (.inr (.inr (1, 1, 0))), some (.inl (nI j)), some (.inl l), some (.inl h)], [], (I, J, R)) _
        refine dn_run 1 (show tkDn tm_34 (35, [some (.inr (.inr (1, 1, 0))), some (.inl (nI j)), some (.inl l), some (.inl h)], [.inl (-12)], (I, J, R)) _ from ?_)
        refine dn_ret0 rfl rfl rfl rfl ?_
        have hf : ¬ fitB l h 1 := fun q => by rw [if_pos q] at c3; exact absurd c3 (by decide)
        rw [show opTight S (nI j) l h = (-12, S) by unfold opTight; rw [if_pos hk, hcl, if_neg hs, if_neg hf]] at hQ
        have := hQ (I 1 1) hP
        rw [tk_so_id] at this
        exact this
  · show tkDn tm_34 (8, [some (.inr (.inr (1, 1, 0))), some (.inl k), some (.inl l), some (.inl h)], [], (I, J, R)) _
    refine dn_run 1 (show tkDn tm_34 (10, [some (.inr (.inr (1, 1, 0))), some (.inl k), some (.inl l), some (.inl h)], [.inl (-11)], (I, J, R)) _ from ?_)
    refine dn_ret0 rfl rfl rfl rfl ?_
    rw [show opTight S k l h = (-11, S) by unfold opTight; rw [if_neg (fun q => by rw [if_pos q] at c1; exact absurd c1 (by decide))]] at hQ
    have := hQ (I 1 1) hP
    rw [tk_so_id] at this
    exact this
theorem sn_setBounds {I : tkI} {J : tkJ} {R : Nat → Nat} {b : Nat} (hb : b < 2) {Q : tkQ} {S : tkS} (hP : NetP (I 1 b) S) (w : WF S) {k l h : Int32} (hQ : ∀ X, NetP X (opTight S k l h).2 → Q (some (.inl (opTight S k l h).1)) (tk_so I 1 b X, J, R)) : tkDn tm_34 (0, [some (.inr (.inr (1, b, 0))), some (.inl k), some (.inl l), some (.inl h)], [], (I, J, R)) Q := by
  match b, hb with
  | 0, _ => exact sn_setBounds0 hP w hQ
  | 1, _ => exact sn_setBounds1 hP w hQ
theorem sn_partOfLink {I : tkI} {J : tkJ} {R : Nat → Nat} {b : Nat} {Q : tkQ} {S : tkS} (hP : NetP (I 1 b) S) (w : WF S) {k z : Int32} (hQ : Q (some (.inl (lnkF S k z))) (I, J, R)) : tkDn tm_35 (0, [some (.inr (.inr (1, b, 0))), some (.inl k), some (.inl z)], [], (I, J, R)) Q := by
  have hL60 := w.2.1
  have hL := hP.l
  refine dn_run 2 (show tkDn tm_35 (2, [some (.inr (.inr (1, b, 0))), some (.inl k), some (.inl z)], [.inl k, .inr (.inr (1, b, 0))], (I, J, R)) _ from ?_)
  refine dn_call rfl rfl rfl rfl rfl (sn_hasLink ?_)
  show tkDn tm_35 (5, [some (.inr (.inr (1, b, 0))), some (.inl k), some (.inl z)], [.inl (if 0 ≤ k ∧ k < I 1 b 0 1 then 1 else 0)], (I, J, R)) _
  rw [hL]
  refine dn_if rfl rfl rfl (fun (c1 : ¬ (if 0 ≤ k ∧ k < nI (sL S) then 1 else 0) = 0) => ?_) (fun (c1 : (if 0 ≤ k ∧ k < nI (sL S) then 1 else 0) = 0) => ?_)
  · show tkDn tm_35 (11, [some (.inr (.inr (1, b, 0))), some (.inl k), some (.inl z)], [], (I, J, R)) _
    have hk : 0 ≤ k ∧ k < nI (sL S) := by by_cases q : 0 ≤ k ∧ k < nI (sL S); exact q; exact absurd (if_neg q) c1
    obtain ⟨j, hj, rfl⟩ := hasL_nat hL60 hk
    have hcl : (nI j).toNatClampNeg = j := nI_clamp (by omega)
    unfold lnkF at hQ
    rw [if_pos hk, hcl] at hQ
    refine dn_run 1 (show tkDn tm_35 (12, [some (.inr (.inr (1, b, 0))), some (.inl (nI j)), some (.inl z)], [.inl z], (I, J, R)) _ from ?_)
    by_cases k0 : z = 0
    · subst k0
      refine dn_sw (t := 48) rfl (by decide) (by decide) ?_
      show tkDn tm_35 (48, [some (.inr (.inr (1, b, 0))), some (.inl (nI j)), some (.inl 0)], [], (I, J, R)) _
      have e := hP.fr w hj
      refine dn_run 4 (show (vp_in (nI j) 60) ∧ tkDn tm_35 (54, [some (.inr (.inr (1, b, 0))), some (.inl (nI j)), some (.inl 0)], [.inl (I 1 b 4 ((nI j).toNatClampNeg))], (I, J, R)) _ from ⟨vp_in_nI (by omega) (by omega), ?_⟩)
      rw [e]
      refine dn_ret0 rfl rfl rfl rfl ?_
      rw [if_pos rfl] at hQ
      exact hQ
    by_cases k1 : z = 1
    · subst k1
      refine dn_sw (t := 55) rfl (by decide) (by decide) ?_
      show tkDn tm_35 (55, [some (.inr (.inr (1, b, 0))), some (.inl (nI j)), some (.inl 1)], [], (I, J, R)) _
      have e := hP.en w hj
      refine dn_run 4 (show (vp_in (nI j) 60) ∧ tkDn tm_35 (61, [some (.inr (.inr (1, b, 0))), some (.inl (nI j)), some (.inl 1)], [.inl (I 1 b 5 ((nI j).toNatClampNeg))], (I, J, R)) _ from ⟨vp_in_nI (by omega) (by omega), ?_⟩)
      rw [e]
      refine dn_ret0 rfl rfl rfl rfl ?_
      rw [if_neg (by decide)] at hQ
      rw [if_pos rfl] at hQ
      exact hQ
    by_cases k2 : z = 2
    · subst k2
      refine dn_sw (t := 62) rfl (by decide) (by decide) ?_
      show tkDn tm_35 (62, [some (.inr (.inr (1, b, 0))), some (.inl (nI j)), some (.inl 2)], [], (I, J, R)) _
      have e := hP.lo w hj
      refine dn_run 4 (show (vp_in (nI j) 60) ∧ tkDn tm_35 (68, [some (.inr (.inr (1, b, 0))), some (.inl (nI j)), some (.inl 2)], [.inl (I 1 b 6 ((nI j).toNatClampNeg))], (I, J, R)) _ from ⟨vp_in_nI (by omega) (by omega), ?_⟩)
      rw [e]
      refine dn_ret0 rfl rfl rfl rfl ?_
      rw [if_neg (by decide)] at hQ
      rw [if_neg (by decide)] at hQ
      rw [if_pos rfl] at hQ
      exact hQ
    by_cases k3 : z = 3
    · subst k3
      refine dn_sw (t := 69) rfl (by decide) (by decide) ?_
      show tkDn tm_35 (69, [some (.inr (.inr (1, b, 0))), some (.inl (nI j)), some (.inl 3)], [], (I, J, R)) _
      have e := hP.hi w hj
      refine dn_run 4 (show (vp_in (nI j) 60) ∧ tkDn tm_35 (75, [some (.inr (.inr (1, b, 0))), some (.inl (nI j)), some (.inl 3)], [.inl (I 1 b 7 ((nI j).toNatClampNeg))], (I, J, R)) _ from ⟨vp_in_nI (by omega) (by omega), ?_⟩)
      rw [e]
      refine dn_ret0 rfl rfl rfl rfl ?_
      rw [if_neg (by decide)] at hQ
      rw [if_neg (by decide)] at hQ
      rw [if_neg (by decide)] at hQ
      rw [if_pos rfl] at hQ
      exact hQ
    by_cases k4 : z = 4
    · subst k4
      refine dn_sw (t := 76) rfl (by decide) (by decide) ?_
      show tkDn tm_35 (76, [some (.inr (.inr (1, b, 0))), some (.inl (nI j)), some (.inl 4)], [], (I, J, R)) _
      have e := hP.gn w hj
      refine dn_run 4 (show (vp_in (nI j) 60) ∧ tkDn tm_35 (82, [some (.inr (.inr (1, b, 0))), some (.inl (nI j)), some (.inl 4)], [.inl (I 1 b 8 ((nI j).toNatClampNeg))], (I, J, R)) _ from ⟨vp_in_nI (by omega) (by omega), ?_⟩)
      rw [e]
      refine dn_ret0 rfl rfl rfl rfl ?_
      rw [if_neg (by decide)] at hQ
      rw [if_neg (by decide)] at hQ
      rw [if_neg (by decide)] at hQ
      rw [if_neg (by decide)] at hQ
      rw [if_pos rfl] at hQ
      exact hQ
    refine dn_sw (t := 83) rfl (by decide) (by rw [sw_out (by have := lv_neT k0 (show (0 : Int32).toInt = 0 by decide); have := lv_neT k1 (show (1 : Int32).toInt = 1 by decide); have := lv_neT k2 (show (2 : Int32).toInt = 2 by decide); have := lv_neT k3 (show (3 : Int32).toInt = 3 by decide); have := lv_neT k4 (show (4 : Int32).toInt = 4 by decide); omega)]; rfl) ?_
    show tkDn tm_35 (83, [some (.inr (.inr (1, b, 0))), some (.inl (nI j)), some (.inl z)], [], (I, J, R)) _
    refine dn_run 1 (show tkDn tm_35 (85, [some (.inr (.inr (1, b, 0))), some (.inl (nI j)), some (.inl z)], [.inl (-12)], (I, J, R)) _ from ?_)
    refine dn_ret0 rfl rfl rfl rfl ?_
    rw [if_neg k0, if_neg k1, if_neg k2, if_neg k3, if_neg k4] at hQ
    exact hQ
  · show tkDn tm_35 (8, [some (.inr (.inr (1, b, 0))), some (.inl k), some (.inl z)], [], (I, J, R)) _
    refine dn_run 1 (show tkDn tm_35 (10, [some (.inr (.inr (1, b, 0))), some (.inl k), some (.inl z)], [.inl (-11)], (I, J, R)) _ from ?_)
    refine dn_ret0 rfl rfl rfl rfl ?_
    unfold lnkF at hQ
    rw [if_neg (fun q => by rw [if_pos q] at c1; exact absurd c1 (by decide))] at hQ
    exact hQ
theorem sn_clear0 {I : tkI} {J : tkJ} {R : Nat → Nat} {Q : tkQ} {S : tkS} (hQ : ∀ X, NetP X (0, 0, 0, S.2.2.2) → Q none (tk_so I 1 0 X, J, R)) : tkDn tm_11 (0, [some (.inr (.inr (1, 0, 0)))], [], (I, J, R)) Q := by
  refine dn_run 9 (show tkDn tm_11 (15, [some (.inr (.inr (1, 0, 0)))], [], (tk_so (tk_so (tk_so I 1 0 (tk_u2 (I 1 0) 0 0 0)) 1 0 (tk_u2 (tk_u2 (I 1 0) 0 0 0) 0 1 0)) 1 0 (tk_u2 (tk_u2 (tk_u2 (I 1 0) 0 0 0) 0 1 0) 0 2 0), J, R)) _ from ?_)
  rw [tk_so_so, tk_so_so]
  refine dn_ret0 rfl rfl rfl rfl ?_
  refine hQ _ ⟨by rw [tk_u2_0 (by decide), tk_u2_0 (by decide), tk_u2_1]; rfl, by rw [tk_u2_0 (by decide), tk_u2_1]; rfl, by rw [tk_u2_1]; rfl, fun j hj => absurd hj (Nat.not_lt_zero _), fun g hg => absurd hg (Nat.not_lt_zero _)⟩
theorem sn_clear1 {I : tkI} {J : tkJ} {R : Nat → Nat} {Q : tkQ} {S : tkS} (hQ : ∀ X, NetP X (0, 0, 0, S.2.2.2) → Q none (tk_so I 1 1 X, J, R)) : tkDn tm_11 (0, [some (.inr (.inr (1, 1, 0)))], [], (I, J, R)) Q := by
  refine dn_run 9 (show tkDn tm_11 (15, [some (.inr (.inr (1, 1, 0)))], [], (tk_so (tk_so (tk_so I 1 1 (tk_u2 (I 1 1) 0 0 0)) 1 1 (tk_u2 (tk_u2 (I 1 1) 0 0 0) 0 1 0)) 1 1 (tk_u2 (tk_u2 (tk_u2 (I 1 1) 0 0 0) 0 1 0) 0 2 0), J, R)) _ from ?_)
  rw [tk_so_so, tk_so_so]
  refine dn_ret0 rfl rfl rfl rfl ?_
  refine hQ _ ⟨by rw [tk_u2_0 (by decide), tk_u2_0 (by decide), tk_u2_1]; rfl, by rw [tk_u2_0 (by decide), tk_u2_1]; rfl, by rw [tk_u2_1]; rfl, fun j hj => absurd hj (Nat.not_lt_zero _), fun g hg => absurd hg (Nat.not_lt_zero _)⟩
theorem sn_clear {I : tkI} {J : tkJ} {R : Nat → Nat} {b : Nat} (hb : b < 2) {Q : tkQ} {S : tkS} (hQ : ∀ X, NetP X (0, 0, 0, S.2.2.2) → Q none (tk_so I 1 b X, J, R)) : tkDn tm_11 (0, [some (.inr (.inr (1, b, 0)))], [], (I, J, R)) Q := by
  match b, hb with
  | 0, _ => exact sn_clear0 (S := S) hQ
  | 1, _ => exact sn_clear1 (S := S) hQ
end
section
/-! the reference's net: what else its object holds -/
def mOth (X Y : Nat → Nat → Int32) : Prop := (∀ k, 3 ≤ k → k ≠ 10 → k ≠ 11 → Y 0 k = X 0 k) ∧ ∀ s, 10 ≤ s → Y s = X s
def mFl (r : Int32) (X Y : Nat → Nat → Int32) : Prop := (r < 0 → Y 0 10 = X 0 10 ∧ Y 0 11 = X 0 11) ∧ (¬ r < 0 → Y 0 10 = 0 ∧ Y 0 11 = 0)
theorem mOth.rfl' {X : Nat → Nat → Int32} : mOth X X := ⟨fun _ _ _ _ => rfl, fun _ _ => rfl⟩
theorem le_pred {x : Int32} {n : Nat} (hn : n < 2 ^ 30) : x ≤ nI n - 1 ↔ x < nI n := by
  have h := pk_sub_toInt (a := n) (b := 1) hn (by decide)
  rw [show nI 1 = (1 : Int32) from rfl] at h
  rw [Int32.le_iff_toInt_le, Int32.lt_iff_toInt_lt, h, nI_toInt (by omega)]
  omega
theorem NetP_to {X Y : Nat → Nat → Int32} {S : tkS} (h : NetP X S) (h0 : ∀ k, k < 3 → Y 0 k = X 0 k) (hs : ∀ s, 4 ≤ s → s ≤ 9 → Y s = X s) : NetP Y S := by
  obtain ⟨h1, h2, h3, h4, h5⟩ := h
  refine ⟨by rw [h0 0 (by omega)]; exact h1, by rw [h0 1 (by omega)]; exact h2, by rw [h0 2 (by omega)]; exact h3, fun j hj => ?_, fun g hg => ?_⟩
  · rw [hs 4 (by omega) (by omega), hs 5 (by omega) (by omega), hs 6 (by omega) (by omega), hs 7 (by omega) (by omega), hs 8 (by omega) (by omega)]
    exact h4 j hj
  · rw [hs 9 (by omega) (by omega)]
    exact h5 g hg
/-- two fields of the reference changed that aren't the net's -/
theorem NetP_fl {X : Nat → Nat → Int32} {S : tkS} (h : NetP X S) : NetP (tk_u2 (tk_u2 X 0 10 0) 0 11 0) S :=
  NetP_to h (fun k hk => by rw [tk_u2_0 (by omega), tk_u2_0 (by omega)]) (fun s h4 h9 => by rw [tk_u2_ne (by omega), tk_u2_ne (by omega)])
theorem mOth_u {X Y : Nat → Nat → Int32} {s k : Nat} {x : Int32} (h : mOth X Y) (hs : (4 ≤ s ∧ s ≤ 9) ∨ (s = 0 ∧ (k < 3 ∨ k = 10 ∨ k = 11))) : mOth X (tk_u2 Y s k x) := by
  refine ⟨fun j h1 h2 h3 => ?_, fun r hr => ?_⟩
  · rw [tk_u2_0 (by omega)]; exact h.1 j h1 h2 h3
  · rw [tk_u2_ne (by omega)]; exact h.2 r hr
theorem up7 {S : tkS} (w : WF S) (t : Nat) : up S 7 t = none := by
  cases h : up S 7 t with
  | none => rfl
  | some k => have := up_le w h; have := w.2.2.1; omega
theorem nI_m1 {n : Nat} (h : n < 2 ^ 31) : ¬ nI n < 0 := nI_pos h
end
section
/-! the reference: its net -/
theorem sm_in {I : tkI} {J : tkJ} {R : Nat → Nat} {Q : tkQ} {v l h : Int32} (hQ : Q (some (.inl (if l ≤ v ∧ v ≤ h then 1 else 0))) (I, J, R)) : tkDn tm_126 (0, [some (.inl v), some (.inl l), some (.inl h)], [], (I, J, R)) Q := by
  refine dn_run 2 (show tkDn tm_126 (2, [some (.inl v), some (.inl l), some (.inl h)], [.inl l, .inl v], (I, J, R)) _ from ?_)
  refine dn_if rfl rfl rfl (fun (c1 : v < l) => ?_) (fun (c1 : ¬ v < l) => ?_)
  · show tkDn tm_126 (14, [some (.inl v), some (.inl l), some (.inl h)], [], (I, J, R)) _
    refine dn_run 1 (show tkDn tm_126 (15, [some (.inl v), some (.inl l), some (.inl h)], [.inl 0], (I, J, R)) _ from ?_)
    refine dn_retb rfl rfl rfl rfl (by decide) ?_
    rw [if_neg (fun q => absurd q.1 (Int32.not_le.mpr c1))] at hQ
    exact hQ
  · show tkDn tm_126 (5, [some (.inl v), some (.inl l), some (.inl h)], [], (I, J, R)) _
    refine dn_run 2 (show tkDn tm_126 (7, [some (.inl v), some (.inl l), some (.inl h)], [.inl h, .inl v], (I, J, R)) _ from ?_)
    refine dn_if rfl rfl rfl (fun (c2 : h < v) => ?_) (fun (c2 : ¬ h < v) => ?_)
    · show tkDn tm_126 (14, [some (.inl v), some (.inl l), some (.inl h)], [], (I, J, R)) _
      refine dn_run 1 (show tkDn tm_126 (15, [some (.inl v), some (.inl l), some (.inl h)], [.inl 0], (I, J, R)) _ from ?_)
      refine dn_retb rfl rfl rfl rfl (by decide) ?_
      rw [if_neg (fun q => absurd q.2 (Int32.not_le.mpr c2))] at hQ
      exact hQ
    · show tkDn tm_126 (10, [some (.inl v), some (.inl l), some (.inl h)], [], (I, J, R)) _
      refine dn_run 2 (show tkDn tm_126 (15, [some (.inl v), some (.inl l), some (.inl h)], [.inl 1], (I, J, R)) _ from ?_)
      refine dn_retb rfl rfl rfl rfl (by decide) ?_
      rw [if_pos ⟨Int32.not_lt.mp c1, Int32.not_lt.mp c2⟩] at hQ
      exact hQ
theorem sm_noMoment {I : tkI} {J : tkJ} {R : Nat → Nat} {Q : tkQ} {S : tkS} (hP : NetP (I 6 0) S) (w : WF S) {v : Int32} (hQ : Q (some (.inl (if hasM S v then 0 else 1))) (I, J, R)) : tkDn tm_128 (0, [some (.inr (.inr (6, 0, 0))), some (.inl v)], [], (I, J, R)) Q := by
  have hM := hP.m
  have hM16 := w.1
  have hiff : (0 ≤ v ∧ v ≤ I 6 0 0 0 - 1) ↔ hasM S v := by rw [hM, le_pred (by omega)]
  refine dn_run 6 (show tkDn tm_128 (8, [some (.inr (.inr (6, 0, 0))), some (.inl v)], [.inl ((I 6 0 0 0) - 1), .inl 0, .inl v], (I, J, R)) _ from ?_)
  refine dn_call rfl rfl rfl rfl rfl (sm_in ?_)
  show tkDn tm_128 (11, [some (.inr (.inr (6, 0, 0))), some (.inl v)], [.inl (if 0 ≤ v ∧ v ≤ I 6 0 0 0 - 1 then 1 else 0)], (I, J, R)) _
  refine dn_if rfl rfl rfl (fun (c : ¬ (if 0 ≤ v ∧ v ≤ I 6 0 0 0 - 1 then 1 else 0) = 0) => ?_) (fun (c : (if 0 ≤ v ∧ v ≤ I 6 0 0 0 - 1 then 1 else 0) = 0) => ?_)
  · show tkDn tm_128 (18, [some (.inr (.inr (6, 0, 0))), some (.inl v)], [], (I, J, R)) _
    refine dn_run 1 (show tkDn tm_128 (19, [some (.inr (.inr (6, 0, 0))), some (.inl v)], [.inl 0], (I, J, R)) _ from ?_)
    refine dn_retb rfl rfl rfl rfl (by decide) ?_
    rw [if_pos (by by_cases q : 0 ≤ v ∧ v ≤ I 6 0 0 0 - 1; exact hiff.mp q; exact absurd (if_neg q) c)] at hQ
    exact hQ
  · show tkDn tm_128 (14, [some (.inr (.inr (6, 0, 0))), some (.inl v)], [], (I, J, R)) _
    refine dn_run 2 (show tkDn tm_128 (19, [some (.inr (.inr (6, 0, 0))), some (.inl v)], [.inl 1], (I, J, R)) _ from ?_)
    refine dn_retb rfl rfl rfl rfl (by decide) ?_
    rw [if_neg (fun q => by rw [if_pos (hiff.mpr q)] at c; exact absurd c (by decide))] at hQ
    exact hQ
theorem sm_areBounds {I : tkI} {J : tkJ} {R : Nat → Nat} {Q : tkQ} {l h : Int32} (hQ : Q (some (.inl (if fitB l h (-100000) then 1 else 0))) (I, J, R)) : tkDn tm_131 (0, [some (.inl l), some (.inl h)], [], (I, J, R)) Q := by
  refine dn_run 3 (show tkDn tm_131 (5, [some (.inl l), some (.inl h)], [.inl 100000, .inl (-100000), .inl l], (I, J, R)) _ from ?_)
  refine dn_call rfl rfl rfl rfl rfl (sm_in ?_)
  show tkDn tm_131 (8, [some (.inl l), some (.inl h)], [.inl (if -100000 ≤ l ∧ l ≤ 100000 then 1 else 0)], (I, J, R)) _
  refine dn_if rfl rfl rfl (fun (c1 : (if -100000 ≤ l ∧ l ≤ 100000 then 1 else 0) = 0) => ?_) (fun (c1 : ¬ (if -100000 ≤ l ∧ l ≤ 100000 then 1 else 0) = 0) => ?_)
  · show tkDn tm_131 (25, [some (.inl l), some (.inl h)], [], (I, J, R)) _
    refine dn_run 1 (show tkDn tm_131 (26, [some (.inl l), some (.inl h)], [.inl 0], (I, J, R)) _ from ?_)
    refine dn_retb rfl rfl rfl rfl (by decide) ?_
    rw [if_neg (fun q => by rw [if_pos ⟨q.1, Int32.le_trans q.2.1 q.2.2⟩] at c1; exact absurd c1 (by decide))] at hQ
    exact hQ
  · show tkDn tm_131 (11, [some (.inl l), some (.inl h)], [], (I, J, R)) _
    have k1 : -100000 ≤ l ∧ l ≤ 100000 := by by_cases q : -100000 ≤ l ∧ l ≤ 100000; exact q; exact absurd (if_neg q) c1
    refine dn_run 3 (show tkDn tm_131 (15, [some (.inl l), some (.inl h)], [.inl 100000, .inl l, .inl h], (I, J, R)) _ from ?_)
    refine dn_call rfl rfl rfl rfl rfl (sm_in ?_)
    show tkDn tm_131 (18, [some (.inl l), some (.inl h)], [.inl (if l ≤ h ∧ h ≤ 100000 then 1 else 0)], (I, J, R)) _
    refine dn_if rfl rfl rfl (fun (c2 : (if l ≤ h ∧ h ≤ 100000 then 1 else 0) = 0) => ?_) (fun (c2 : ¬ (if l ≤ h ∧ h ≤ 100000 then 1 else 0) = 0) => ?_)
    · show tkDn tm_131 (25, [some (.inl l), some (.inl h)], [], (I, J, R)) _
      refine dn_run 1 (show tkDn tm_131 (26, [some (.inl l), some (.inl h)], [.inl 0], (I, J, R)) _ from ?_)
      refine dn_retb rfl rfl rfl rfl (by decide) ?_
      rw [if_neg (fun q => by rw [if_pos q.2] at c2; exact absurd c2 (by decide))] at hQ
      exact hQ
    · show tkDn tm_131 (21, [some (.inl l), some (.inl h)], [], (I, J, R)) _
      refine dn_run 2 (show tkDn tm_131 (26, [some (.inl l), some (.inl h)], [.inl 1], (I, J, R)) _ from ?_)
      refine dn_retb rfl rfl rfl rfl (by decide) ?_
      rw [if_pos ⟨k1.1, by by_cases q : l ≤ h ∧ h ≤ 100000; exact q; exact absurd (if_neg q) c2⟩] at hQ
      exact hQ
theorem sm_added {I : tkI} {J : tkJ} {R : Nat → Nat} {Q : tkQ} {S : tkS} (hP : NetP (I 6 0) S) {u v : Nat} {l h g : Int32} (hlt : sL S < 60) (hQ : ∀ X, NetP X (app S u v l h g) → mOth (I 6 0) X → mFl (nI (sL S)) (I 6 0) X → Q (some (.inl (nI (sL S)))) (tk_so I 6 0 X, J, R)) : tkDn tm_132 (0, [some (.inr (.inr (6, 0, 0))), some (.inl (nI u)), some (.inl (nI v)), some (.inl l), some (.inl h), some (.inl g)], [], (I, J, R)) Q := by
  have hL := hP.l
  have hin : vp_in (I 6 0 0 1) 60 := by rw [hL]; exact vp_in_nI hlt (by omega)
  refine dn_run 37 (show (vp_in (I 6 0 0 1) 60) ∧ (vp_in (I 6 0 0 1) 60) ∧ (vp_in (I 6 0 0 1) 60) ∧ (vp_in (I 6 0 0 1) 60) ∧ (vp_in (I 6 0 0 1) 60) ∧ tkDn tm_132 (63, [some (.inr (.inr (6, 0, 0))), some (.inl (nI u)), some (.inl (nI v)), some (.inl l), some (.inl h), some (.inl g)], [.inr (.inr (6, 0, 0))], (tk_so (tk_so (tk_so (tk_so (tk_so (tk_so I 6 0 (tk_u2 (I 6 0) 4 ((I 6 0 0 1).toNatClampNeg) (nI u))) 6 0 (tk_u2 (tk_u2 (I 6 0) 4 ((I 6 0 0 1).toNatClampNeg) (nI u)) 5 ((I 6 0 0 1).toNatClampNeg) (nI v))) 6 0 (tk_u2 (tk_u2 (tk_u2 (I 6 0) 4 ((I 6 0 0 1).toNatClampNeg) (nI u)) 5 ((I 6 0 0 1).toNatClampNeg) (nI v)) 6 ((I 6 0 0 1).toNatClampNeg) l)) 6 0 (tk_u2 (tk_u2 (tk_u2 (tk_u2 (I 6 0) 4 ((I 6 0 0 1).toNatClampNeg) (nI u)) 5 ((I 6 0 0 1).toNatClampNeg) (nI v)) 6 ((I 6 0 0 1).toNatClampNeg) l) 7 ((I 6 0 0 1).toNatClampNeg) h)) 6 0 (tk_u2 (tk_u2 (tk_u2 (tk_u2 (tk_u2 (I 6 0) 4 ((I 6 0 0 1).toNatClampNeg) (nI u)) 5 ((I 6 0 0 1).toNatClampNeg) (nI v)) 6 ((I 6 0 0 1).toNatClampNeg) l) 7 ((I 6 0 0 1).toNatClampNeg) h) 8 ((I 6 0 0 1).toNatClampNeg) g)) 6 0 (tk_u2 (tk_u2 (tk_u2 (tk_u2 (tk_u2 (tk_u2 (I 6 0) 4 ((I 6 0 0 1).toNatClampNeg) (nI u)) 5 ((I 6 0 0 1).toNatClampNeg) (nI v)) 6 ((I 6 0 0 1).toNatClampNeg) l) 7 ((I 6 0 0 1).toNatClampNeg) h) 8 ((I 6 0 0 1).toNatClampNeg) g) 0 1 ((I 6 0 0 1) + 1)), J, R)) _ from ⟨hin, hin, hin, hin, hin, ?_⟩)
  rw [tk_so_so, tk_so_so, tk_so_so, tk_so_so, tk_so_so]
  refine dn_call rfl rfl rfl rfl rfl ?_
  show tkDn tm_127 (0, [some (.inr (.inr (6, 0, 0)))], [], (tk_so I 6 0 (tk_u2 (tk_u2 (tk_u2 (tk_u2 (tk_u2 (tk_u2 (I 6 0) 4 ((I 6 0 0 1).toNatClampNeg) (nI u)) 5 ((I 6 0 0 1).toNatClampNeg) (nI v)) 6 ((I 6 0 0 1).toNatClampNeg) l) 7 ((I 6 0 0 1).toNatClampNeg) h) 8 ((I 6 0 0 1).toNatClampNeg) g) 0 1 ((I 6 0 0 1) + 1)), J, R)) _
  refine dn_run 6 (show (0 = 0 ∨ 0 = 1) ∧ (0 = 0 ∨ 0 = 1) ∧ tkDn tm_127 (10, [some (.inr (.inr (6, 0, 0)))], [], (tk_so (tk_so (tk_so I 6 0 (tk_u2 (tk_u2 (tk_u2 (tk_u2 (tk_u2 (tk_u2 (I 6 0) 4 ((I 6 0 0 1).toNatClampNeg) (nI u)) 5 ((I 6 0 0 1).toNatClampNeg) (nI v)) 6 ((I 6 0 0 1).toNatClampNeg) l) 7 ((I 6 0 0 1).toNatClampNeg) h) 8 ((I 6 0 0 1).toNatClampNeg) g) 0 1 ((I 6 0 0 1) + 1))) 6 0 (tk_u2 (tk_u2 (tk_u2 (tk_u2 (tk_u2 (tk_u2 (tk_u2 (I 6 0) 4 ((I 6 0 0 1).toNatClampNeg) (nI u)) 5 ((I 6 0 0 1).toNatClampNeg) (nI v)) 6 ((I 6 0 0 1).toNatClampNeg) l) 7 ((I 6 0 0 1).toNatClampNeg) h) 8 ((I 6 0 0 1).toNatClampNeg) g) 0 1 ((I 6 0 0 1) + 1)) 0 10 0)) 6 0 (tk_u2 (tk_u2 (tk_u2 (tk_u2 (tk_u2 (tk_u2 (tk_u2 (tk_u2 (I 6 0) 4 ((I 6 0 0 1).toNatClampNeg) (nI u)) 5 ((I 6 0 0 1).toNatClampNeg) (nI v)) 6 ((I 6 0 0 1).toNatClampNeg) l) 7 ((I 6 0 0 1).toNatClampNeg) h) 8 ((I 6 0 0 1).toNatClampNeg) g) 0 1 ((I 6 0 0 1) + 1)) 0 10 0) 0 11 0), J, R)) _ from ⟨Or.inl rfl, Or.inl rfl, ?_⟩)
  rw [tk_so_so, tk_so_so]
  refine dn_ret0 rfl rfl rfl rfl ?_
  show tkDn tm_132 (66, [some (.inr (.inr (6, 0, 0))), some (.inl (nI u)), some (.inl (nI v)), some (.inl l), some (.inl h), some (.inl g)], [], (tk_so I 6 0 (tk_u2 (tk_u2 (tk_u2 (tk_u2 (tk_u2 (tk_u2 (tk_u2 (tk_u2 (I 6 0) 4 ((I 6 0 0 1).toNatClampNeg) (nI u)) 5 ((I 6 0 0 1).toNatClampNeg) (nI v)) 6 ((I 6 0 0 1).toNatClampNeg) l) 7 ((I 6 0 0 1).toNatClampNeg) h) 8 ((I 6 0 0 1).toNatClampNeg) g) 0 1 ((I 6 0 0 1) + 1)) 0 10 0) 0 11 0), J, R)) _
  refine dn_run 4 (show tkDn tm_132 (72, [some (.inr (.inr (6, 0, 0))), some (.inl (nI u)), some (.inl (nI v)), some (.inl l), some (.inl h), some (.inl g)], [.inl (((I 6 0 0 1) + 1) - 1)], (tk_so I 6 0 (tk_u2 (tk_u2 (tk_u2 (tk_u2 (tk_u2 (tk_u2 (tk_u2 (tk_u2 (I 6 0) 4 ((I 6 0 0 1).toNatClampNeg) (nI u)) 5 ((I 6 0 0 1).toNatClampNeg) (nI v)) 6 ((I 6 0 0 1).toNatClampNeg) l) 7 ((I 6 0 0 1).toNatClampNeg) h) 8 ((I 6 0 0 1).toNatClampNeg) g) 0 1 ((I 6 0 0 1) + 1)) 0 10 0) 0 11 0), J, R)) _ from ?_)
  refine dn_ret0 rfl rfl rfl rfl ?_
  rw [show I 6 0 0 1 + 1 - 1 = nI (sL S) by rw [hL]; rw [nI_1, nI_sub1]]
  refine hQ _ (NetP_fl (NetP_app hP (by rw [hL, nI_clamp (by omega)]) (by rw [hL]; rw [nI_1]))) ?_ ⟨fun q => absurd q (nI_pos (by omega)), fun _ => ⟨by rw [tk_u2_0 (by decide), tk_u2_1], tk_u2_1⟩⟩
  refine mOth_u (mOth_u (mOth_u (mOth_u (mOth_u (mOth_u (mOth_u (mOth_u mOth.rfl' ?_) ?_) ?_) ?_) ?_) ?_) ?_) ?_ <;> omega
theorem sm_moments {I : tkI} {J : tkJ} {R : Nat → Nat} {Q : tkQ} {S : tkS} (hP : NetP (I 6 0) S) (w : WF S) {n : Int32} (hQ : ∀ X, NetP X (opMom S n).2 → mOth (I 6 0) X → mFl (opMom S n).1 (I 6 0) X → Q (some (.inl (opMom S n).1)) (tk_so I 6 0 X, J, R)) : tkDn tm_130 (0, [some (.inr (.inr (6, 0, 0))), some (.inl n)], [], (I, J, R)) Q := by
  have hM := hP.m
  have hM16 := w.1
  refine dn_run 3 (show tkDn tm_130 (4, [some (.inr (.inr (6, 0, 0))), some (.inl n)], [.inl 16, .inl 1, .inl n], (I, J, R)) _ from ?_)
  refine dn_call rfl rfl rfl rfl rfl (sm_in ?_)
  show tkDn tm_130 (7, [some (.inr (.inr (6, 0, 0))), some (.inl n)], [.inl (if 1 ≤ n ∧ n ≤ 16 then 1 else 0)], (I, J, R)) _
  refine dn_if rfl rfl rfl (fun (c1 : ¬ (if 1 ≤ n ∧ n ≤ 16 then 1 else 0) = 0) => ?_) (fun (c1 : (if 1 ≤ n ∧ n ≤ 16 then 1 else 0) = 0) => ?_)
  · show tkDn tm_130 (13, [some (.inr (.inr (6, 0, 0))), some (.inl n)], [], (I, J, R)) _
    have k1 : 1 ≤ n ∧ n ≤ 16 := by by_cases q : 1 ≤ n ∧ n ≤ 16; exact q; exact absurd (if_neg q) c1
    have k2 : ¬ (n < 1 ∨ 16 < n) := fun q => q.elim (fun q => absurd k1.1 (Int32.not_le.mpr q)) (fun q => absurd k1.2 (Int32.not_le.mpr q))
    refine dn_run 5 (show tkDn tm_130 (21, [some (.inr (.inr (6, 0, 0))), some (.inl n)], [.inl 16, .inl ((I 6 0 0 0) + n)], (I, J, R)) _ from ?_)
    refine dn_if rfl rfl rfl (fun (c2 : ((I 6 0 0 0) + n) ≤ 16) => ?_) (fun (c2 : ¬ ((I 6 0 0 0) + n) ≤ 16) => ?_)
    · show tkDn tm_130 (27, [some (.inr (.inr (6, 0, 0))), some (.inl n)], [], (I, J, R)) _
      rw [hM] at c2
      refine dn_run 7 (show tkDn tm_130 (38, [some (.inr (.inr (6, 0, 0))), some (.inl n)], [.inr (.inr (6, 0, 0))], (tk_so I 6 0 (tk_u2 (I 6 0) 0 0 ((I 6 0 0 0) + n)), J, R)) _ from ?_)
      refine dn_call rfl rfl rfl rfl rfl ?_
      show tkDn tm_127 (0, [some (.inr (.inr (6, 0, 0)))], [], (tk_so I 6 0 (tk_u2 (I 6 0) 0 0 ((I 6 0 0 0) + n)), J, R)) _
      refine dn_run 6 (show (0 = 0 ∨ 0 = 1) ∧ (0 = 0 ∨ 0 = 1) ∧ tkDn tm_127 (10, [some (.inr (.inr (6, 0, 0)))], [], (tk_so (tk_so (tk_so I 6 0 (tk_u2 (I 6 0) 0 0 ((I 6 0 0 0) + n))) 6 0 (tk_u2 (tk_u2 (I 6 0) 0 0 ((I 6 0 0 0) + n)) 0 10 0)) 6 0 (tk_u2 (tk_u2 (tk_u2 (I 6 0) 0 0 ((I 6 0 0 0) + n)) 0 10 0) 0 11 0), J, R)) _ from ⟨Or.inl rfl, Or.inl rfl, ?_⟩)
      rw [tk_so_so, tk_so_so]
      refine dn_ret0 rfl rfl rfl rfl ?_
      show tkDn tm_130 (41, [some (.inr (.inr (6, 0, 0))), some (.inl n)], [], (tk_so I 6 0 (tk_u2 (tk_u2 (tk_u2 (I 6 0) 0 0 ((I 6 0 0 0) + n)) 0 10 0) 0 11 0), J, R)) _
      refine dn_run 2 (show tkDn tm_130 (45, [some (.inr (.inr (6, 0, 0))), some (.inl n)], [.inl ((I 6 0 0 0) + n)], (tk_so I 6 0 (tk_u2 (tk_u2 (tk_u2 (I 6 0) 0 0 ((I 6 0 0 0) + n)) 0 10 0) 0 11 0), J, R)) _ from ?_)
      refine dn_ret0 rfl rfl rfl rfl ?_
      have c3 := Int32.not_lt.mpr c2
      obtain ⟨j, hj, rfl⟩ := nI_of (x := n) (fun q => k2 (Or.inl (Int32.lt_trans q (by decide))))
      have hj16 : j ≤ 16 := by
        have := (nI_leI (a := j) (b := 16) hj (by decide)).mp k1.2
        omega
      have he : opMom S (nI j) = (nI (sM S + j), (sM S + j, S.2)) := by
        unfold opMom
        rw [if_neg k2, if_neg c3, nI_clamp hj]
      rw [he] at hQ
      rw [show I 6 0 0 0 + nI j = nI (sM S + j) by rw [hM, nI_add]]
      refine hQ _ (NetP_fl ⟨by rw [tk_u2_1]; rfl, by rw [tk_u2_0 (by decide)]; exact hP.l, by rw [tk_u2_0 (by decide)]; exact hP.g, fun q hq => ?_, fun q hq => ?_⟩) ?_ ⟨fun q => absurd q (nI_pos (by omega)), fun _ => ⟨by rw [tk_u2_0 (by decide), tk_u2_1], tk_u2_1⟩⟩
      · have := hP.2.2.2.1 q hq
        simp only [tk_u2_0 (show ¬ (4 = 0 ∧ q = 0) by omega), tk_u2_0 (show ¬ (5 = 0 ∧ q = 0) by omega), tk_u2_0 (show ¬ (6 = 0 ∧ q = 0) by omega), tk_u2_0 (show ¬ (7 = 0 ∧ q = 0) by omega), tk_u2_0 (show ¬ (8 = 0 ∧ q = 0) by omega)]
        exact this
      · rw [tk_u2_0 (show ¬ (9 = 0 ∧ q = 0) by omega)]
        exact hP.2.2.2.2 q hq
      · refine mOth_u (mOth_u (mOth_u mOth.rfl' ?_) ?_) ?_ <;> omega
    · show tkDn tm_130 (24, [some (.inr (.inr (6, 0, 0))), some (.inl n)], [], (I, J, R)) _
      refine dn_run 1 (show tkDn tm_130 (26, [some (.inr (.inr (6, 0, 0))), some (.inl n)], [.inl (-14)], (I, J, R)) _ from ?_)
      refine dn_ret0 rfl rfl rfl rfl ?_
      rw [hM] at c2
      rw [show opMom S n = (-14, S) by unfold opMom; rw [if_neg k2, if_pos (Int32.not_le.mp c2)]] at hQ
      have := hQ (I 6 0) hP mOth.rfl' ⟨fun _ => ⟨rfl, rfl⟩, fun q => absurd (show ((-14) : Int32) < 0 by decide) q⟩
      rw [tk_so_id] at this
      exact this
  · show tkDn tm_130 (10, [some (.inr (.inr (6, 0, 0))), some (.inl n)], [], (I, J, R)) _
    refine dn_run 1 (show tkDn tm_130 (12, [some (.inr (.inr (6, 0, 0))), some (.inl n)], [.inl (-12)], (I, J, R)) _ from ?_)
    refine dn_ret0 rfl rfl rfl rfl ?_
    have k2 : n < 1 ∨ 16 < n := by
      by_cases q : n < 1
      · exact Or.inl q
      · by_cases q2 : 16 < n
        · exact Or.inr q2
        · rw [if_pos ⟨Int32.not_lt.mp q, Int32.not_lt.mp q2⟩] at c1; exact absurd c1 (by decide)
    rw [show opMom S n = (-12, S) by unfold opMom; rw [if_pos k2]] at hQ
    have := hQ (I 6 0) hP mOth.rfl' ⟨fun _ => ⟨rfl, rfl⟩, fun q => absurd (show ((-12) : Int32) < 0 by decide) q⟩
    rw [tk_so_id] at this
    exact this
theorem sm_comesFrom_loop {I : tkI} {J : tkJ} {R : Nat → Nat} {Q : tkQ} {S : tkS} (hP : NetP (I 6 0) S) (w : WF S) {m k : Nat} (hk : k < 16) : ∀ n t, up S n t = none → t < sM S → Q (some (.inl (if cfF S k n t = true then 1 else 0))) (I, J, R) → tkDn tm_134 (2, [some (.inr (.inr (6, 0, 0))), some (.inl (nI m)), some (.inl (nI k)), some (.inl (nI t))], [], (I, J, R)) Q := by
  have hM16 := w.1
  have hG6 := w.2.2.1
  have hL60 := w.2.1
  intro n
  induction n with
  | zero =>
    intro t h
    cases h
  | succ n ih =>
    intro t hu ht hQ
    show tkDn tm_134 (2, [some (.inr (.inr (6, 0, 0))), some (.inl (nI m)), some (.inl (nI k)), some (.inl (nI t))], [], (I, J, R)) _
    refine dn_run 2 (show tkDn tm_134 (4, [some (.inr (.inr (6, 0, 0))), some (.inl (nI m)), some (.inl (nI k)), some (.inl (nI t))], [.inl (nI k), .inl (nI t)], (I, J, R)) _ from ?_)
    refine dn_if rfl rfl rfl (fun (c : (nI t) = (nI k)) => ?_) (fun (c : ¬ (nI t) = (nI k)) => ?_)
    · show tkDn tm_134 (34, [some (.inr (.inr (6, 0, 0))), some (.inl (nI m)), some (.inl (nI k)), some (.inl (nI t))], [], (I, J, R)) _
      refine dn_run 2 (show tkDn tm_134 (36, [some (.inr (.inr (6, 0, 0))), some (.inl (nI m)), some (.inl (nI k)), some (.inl (nI t))], [.inl (nI k), .inl (nI t)], (I, J, R)) _ from ?_)
      refine dn_if rfl rfl rfl (fun (c2 : ¬ (nI t) = (nI k)) => ?_) (fun (c2 : (nI t) = (nI k)) => ?_)
      · exact absurd c c2
      · show tkDn tm_134 (39, [some (.inr (.inr (6, 0, 0))), some (.inl (nI m)), some (.inl (nI k)), some (.inl (nI t))], [], (I, J, R)) _
        refine dn_run 2 (show tkDn tm_134 (44, [some (.inr (.inr (6, 0, 0))), some (.inl (nI m)), some (.inl (nI k)), some (.inl (nI t))], [.inl 1], (I, J, R)) _ from ?_)
        refine dn_retb rfl rfl rfl rfl (by decide) ?_
        have c3 : t = k := (nI_eq (by omega) (by omega)).mp c
        rw [show cfF S k (n + 1) t = true from if_pos c3] at hQ
        exact hQ
    · show tkDn tm_134 (7, [some (.inr (.inr (6, 0, 0))), some (.inl (nI m)), some (.inl (nI k)), some (.inl (nI t))], [], (I, J, R)) _
      have c3 : ¬ t = k := fun q => c (by rw [q])
      refine dn_run 2 (show tkDn tm_134 (9, [some (.inr (.inr (6, 0, 0))), some (.inl (nI m)), some (.inl (nI k)), some (.inl (nI t))], [.inl (nI t), .inr (.inr (6, 0, 0))], (I, J, R)) _ from ?_)
      refine dn_call rfl rfl rfl rfl rfl (sm_giftTo hP w (by omega) ?_)
      show tkDn tm_134 (12, [some (.inr (.inr (6, 0, 0))), some (.inl (nI m)), some (.inl (nI k)), some (.inl (nI t))], [.inl (if gt S t < sG S then nI (gt S t) else -1)], (I, J, R)) _
      refine dn_if rfl rfl rfl (fun (c2 : (if gt S t < sG S then nI (gt S t) else -1) < 0) => ?_) (fun (c2 : ¬ (if gt S t < sG S then nI (gt S t) else -1) < 0) => ?_)
      · show tkDn tm_134 (34, [some (.inr (.inr (6, 0, 0))), some (.inl (nI m)), some (.inl (nI k)), some (.inl (nI t))], [], (I, J, R)) _
        have hg : ¬ gt S t < sG S := fun q => by rw [if_pos q] at c2; exact nI_pos (by omega) c2
        refine dn_run 2 (show tkDn tm_134 (36, [some (.inr (.inr (6, 0, 0))), some (.inl (nI m)), some (.inl (nI k)), some (.inl (nI t))], [.inl (nI k), .inl (nI t)], (I, J, R)) _ from ?_)
        refine dn_if rfl rfl rfl (fun (c4 : ¬ (nI t) = (nI k)) => ?_) (fun (c4 : (nI t) = (nI k)) => ?_)
        · show tkDn tm_134 (43, [some (.inr (.inr (6, 0, 0))), some (.inl (nI m)), some (.inl (nI k)), some (.inl (nI t))], [], (I, J, R)) _
          refine dn_run 1 (show tkDn tm_134 (44, [some (.inr (.inr (6, 0, 0))), some (.inl (nI m)), some (.inl (nI k)), some (.inl (nI t))], [.inl 0], (I, J, R)) _ from ?_)
          refine dn_retb rfl rfl rfl rfl (by decide) ?_
          rw [show cfF S k (n + 1) t = false by show (if t = k then true else if gt S t < sG S then _ else _) = _; rw [if_neg c3, if_neg hg]] at hQ
          exact hQ
        · exact absurd c4 c
      · show tkDn tm_134 (15, [some (.inr (.inr (6, 0, 0))), some (.inl (nI m)), some (.inl (nI k)), some (.inl (nI t))], [], (I, J, R)) _
        have hg : gt S t < sG S := by by_cases q : gt S t < sG S; exact q; rw [if_neg q] at c2; exact absurd (by decide) c2
        have h1 := hP.gl w hg
        have hl := w.gl hg
        have h2 := hP.fr w hl
        refine dn_run 6 (show tkDn tm_134 (25, [some (.inr (.inr (6, 0, 0))), some (.inl (nI m)), some (.inl (nI k)), some (.inl (nI t))], [.inl (nI t), .inr (.inr (6, 0, 0)), .inr (.inr (6, 0, 9)), .inr (.inr (6, 0, 4))], (I, J, R)) _ from ?_)
        refine dn_call rfl rfl rfl rfl rfl (sm_giftTo hP w (by omega) ?_)
        show tkDn tm_134 (28, [some (.inr (.inr (6, 0, 0))), some (.inl (nI m)), some (.inl (nI k)), some (.inl (nI t))], [.inl (if gt S t < sG S then nI (gt S t) else -1), .inr (.inr (6, 0, 9)), .inr (.inr (6, 0, 4))], (I, J, R)) _
        rw [if_pos hg]
        show tkDn tm_134 (28, [some (.inr (.inr (6, 0, 0))), some (.inl (nI m)), some (.inl (nI k)), some (.inl (nI t))], [.inl (nI (gt S t)), .inr (.inr (6, 0, 9)), .inr (.inr (6, 0, 4))], (I, J, R)) _
        refine dn_run 4 (show (vp_in (nI (gt S t)) 6) ∧ (vp_in (I 6 0 9 ((nI (gt S t)).toNatClampNeg)) 60) ∧ tkDn tm_134 (2, [some (.inr (.inr (6, 0, 0))), some (.inl (nI m)), some (.inl (nI k)), some (.inl (I 6 0 4 ((I 6 0 9 ((nI (gt S t)).toNatClampNeg)).toNatClampNeg)))], [], (I, J, R)) _ from ⟨vp_in_nI (by omega) (by omega), by rw [h1]; exact vp_in_nI (by omega) (by omega), ?_⟩)
        rw [h1, h2]
        rw [show cfF S k (n + 1) t = cfF S k n (sf S (sgl S (gt S t))) by show (if t = k then true else if gt S t < sG S then _ else _) = _; rw [if_neg c3, if_pos hg]] at hQ
        exact ih _ (by rw [show up S (n + 1) t = up S n (sf S (sgl S (gt S t))) from if_pos hg] at hu; exact hu) (w.fM hl) hQ
theorem sm_comesFrom {I : tkI} {J : tkJ} {R : Nat → Nat} {Q : tkQ} {S : tkS} (hP : NetP (I 6 0) S) (w : WF S) {m k : Nat} (hm : m < sM S) (hk : k < 16) (hQ : Q (some (.inl (if cfF S k 7 m = true then 1 else 0))) (I, J, R)) : tkDn tm_134 (0, [some (.inr (.inr (6, 0, 0))), some (.inl (nI m)), some (.inl (nI k)), none], [], (I, J, R)) Q := by
  refine dn_run 2 (show tkDn tm_134 (2, [some (.inr (.inr (6, 0, 0))), some (.inl (nI m)), some (.inl (nI k)), some (.inl (nI m))], [], (I, J, R)) _ from ?_)
  exact sm_comesFrom_loop hP w hk 7 m (up7 w m) hm hQ
end
section
/-! the reference: wish, gift, undo, tighten, link -/
theorem sm_wish {I : tkI} {J : tkJ} {R : Nat → Nat} {Q : tkQ} {S : tkS} (hP : NetP (I 6 0) S) (w : WF S) {u v l h : Int32} (hQ : ∀ X, NetP X (opWish S u v l h).2 → mOth (I 6 0) X → mFl (opWish S u v l h).1 (I 6 0) X → Q (some (.inl (opWish S u v l h).1)) (tk_so I 6 0 X, J, R)) : tkDn tm_133 (0, [some (.inr (.inr (6, 0, 0))), some (.inl u), some (.inl v), some (.inl l), some (.inl h)], [], (I, J, R)) Q := by
  have hM16 := w.1
  have hL60 := w.2.1
  have hL := hP.l
  refine dn_run 2 (show tkDn tm_133 (2, [some (.inr (.inr (6, 0, 0))), some (.inl u), some (.inl v), some (.inl l), some (.inl h)], [.inl u, .inr (.inr (6, 0, 0))], (I, J, R)) _ from ?_)
  refine dn_call rfl rfl rfl rfl rfl (sm_noMoment hP w ?_)
  show tkDn tm_133 (5, [some (.inr (.inr (6, 0, 0))), some (.inl u), some (.inl v), some (.inl l), some (.inl h)], [.inl (if hasM S u then 0 else 1)], (I, J, R)) _
  refine dn_if rfl rfl rfl (fun (c1 : ¬ (if hasM S u then 0 else 1) = 0) => ?_) (fun (c1 : (if hasM S u then 0 else 1) = 0) => ?_)
  · show tkDn tm_133 (16, [some (.inr (.inr (6, 0, 0))), some (.inl u), some (.inl v), some (.inl l), some (.inl h)], [], (I, J, R)) _
    refine dn_run 1 (show tkDn tm_133 (18, [some (.inr (.inr (6, 0, 0))), some (.inl u), some (.inl v), some (.inl l), some (.inl h)], [.inl (-11)], (I, J, R)) _ from ?_)
    refine dn_ret0 rfl rfl rfl rfl ?_
    have hrf : rfF S u v l h (-100000) = -11 := by unfold rfF; rw [if_pos (fun q => by rw [if_pos q.1] at c1; exact absurd rfl c1)]
    rw [show opWish S u v l h = (-11, S) by unfold opWish; rw [hrf]; rw [if_neg (by decide)]] at hQ
    have := hQ (I 6 0) hP mOth.rfl' ⟨fun _ => ⟨rfl, rfl⟩, fun q => absurd (show ((-11) : Int32) < 0 by decide) q⟩
    rw [tk_so_id] at this
    exact this
  · show tkDn tm_133 (8, [some (.inr (.inr (6, 0, 0))), some (.inl u), some (.inl v), some (.inl l), some (.inl h)], [], (I, J, R)) _
    have k1 : hasM S u := by by_cases q : hasM S u; exact q; rw [if_neg q] at c1; exact absurd c1 (by decide)
    refine dn_run 2 (show tkDn tm_133 (10, [some (.inr (.inr (6, 0, 0))), some (.inl u), some (.inl v), some (.inl l), some (.inl h)], [.inl v, .inr (.inr (6, 0, 0))], (I, J, R)) _ from ?_)
    refine dn_call rfl rfl rfl rfl rfl (sm_noMoment hP w ?_)
    show tkDn tm_133 (13, [some (.inr (.inr (6, 0, 0))), some (.inl u), some (.inl v), some (.inl l), some (.inl h)], [.inl (if hasM S v then 0 else 1)], (I, J, R)) _
    refine dn_if rfl rfl rfl (fun (c2 : (if hasM S v then 0 else 1) = 0) => ?_) (fun (c2 : ¬ (if hasM S v then 0 else 1) = 0) => ?_)
    · show tkDn tm_133 (19, [some (.inr (.inr (6, 0, 0))), some (.inl u), some (.inl v), some (.inl l), some (.inl h)], [], (I, J, R)) _
      have k2 : hasM S v := by by_cases q : hasM S v; exact q; rw [if_neg q] at c2; exact absurd c2 (by decide)
      refine dn_run 2 (show tkDn tm_133 (21, [some (.inr (.inr (6, 0, 0))), some (.inl u), some (.inl v), some (.inl l), some (.inl h)], [.inl v, .inl u], (I, J, R)) _ from ?_)
      refine dn_if rfl rfl rfl (fun (c3 : ¬ u = v) => ?_) (fun (c3 : u = v) => ?_)
      · show tkDn tm_133 (27, [some (.inr (.inr (6, 0, 0))), some (.inl u), some (.inl v), some (.inl l), some (.inl h)], [], (I, J, R)) _
        refine dn_run 2 (show tkDn tm_133 (30, [some (.inr (.inr (6, 0, 0))), some (.inl u), some (.inl v), some (.inl l), some (.inl h)], [.inl h, .inl l], (I, J, R)) _ from ?_)
        refine dn_call rfl rfl rfl rfl rfl (sm_areBounds ?_)
        show tkDn tm_133 (33, [some (.inr (.inr (6, 0, 0))), some (.inl u), some (.inl v), some (.inl l), some (.inl h)], [.inl (if fitB l h (-100000) then 1 else 0)], (I, J, R)) _
        refine dn_if rfl rfl rfl (fun (c4 : ¬ (if fitB l h (-100000) then 1 else 0) = 0) => ?_) (fun (c4 : (if fitB l h (-100000) then 1 else 0) = 0) => ?_)
        · show tkDn tm_133 (39, [some (.inr (.inr (6, 0, 0))), some (.inl u), some (.inl v), some (.inl l), some (.inl h)], [], (I, J, R)) _
          have k4 : fitB l h (-100000) := by by_cases q : fitB l h (-100000); exact q; exact absurd (if_neg q) c4
          have hrf : rfF S u v l h (-100000) = 0 := by unfold rfF; rw [if_neg (fun q => q ⟨k1, k2⟩), if_neg c3, if_pos k4]
          refine dn_run 3 (show tkDn tm_133 (45, [some (.inr (.inr (6, 0, 0))), some (.inl u), some (.inl v), some (.inl l), some (.inl h)], [.inl 60, .inl (I 6 0 0 1)], (I, J, R)) _ from ?_)
          refine dn_if rfl rfl rfl (fun (c5 : ¬ (I 6 0 0 1) = 60) => ?_) (fun (c5 : (I 6 0 0 1) = 60) => ?_)
          · show tkDn tm_133 (53, [some (.inr (.inr (6, 0, 0))), some (.inl u), some (.inl v), some (.inl l), some (.inl h)], [], (I, J, R)) _
            rw [hL] at c5
            have hlt : sL S < 60 := Nat.lt_of_le_of_ne hL60 (fun z => c5 (by rw [z]; rfl))
            rw [show opWish S u v l h = (nI (sL S), app S u.toNatClampNeg v.toNatClampNeg l h (-9)) by unfold opWish; rw [if_pos hrf, if_neg (by omega)]] at hQ
            obtain ⟨u, hu, rfl, hu2⟩ := hasM_nat hM16 k1
            obtain ⟨v, hv, rfl, hv2⟩ := hasM_nat hM16 k2
            rw [hu2, hv2] at hQ
            show tkDn tm_133 (53, [some (.inr (.inr (6, 0, 0))), some (.inl (nI u)), some (.inl (nI v)), some (.inl l), some (.inl h)], [], (I, J, R)) _
            refine dn_run 6 (show tkDn tm_133 (61, [some (.inr (.inr (6, 0, 0))), some (.inl (nI u)), some (.inl (nI v)), some (.inl l), some (.inl h)], [.inl (-9), .inl h, .inl l, .inl (nI v), .inl (nI u), .inr (.inr (6, 0, 0))], (I, J, R)) _ from ?_)
            refine dn_call rfl rfl rfl rfl rfl (sm_added hP hlt (fun X hX h1 h2 => ?_))
            show tkDn tm_133 (64, [some (.inr (.inr (6, 0, 0))), some (.inl (nI u)), some (.inl (nI v)), some (.inl l), some (.inl h)], [.inl (nI (sL S))], (tk_so I 6 0 X, J, R)) _
            refine dn_ret0 rfl rfl rfl rfl ?_
            exact hQ X hX h1 h2
          · show tkDn tm_133 (48, [some (.inr (.inr (6, 0, 0))), some (.inl u), some (.inl v), some (.inl l), some (.inl h)], [], (I, J, R)) _
            refine dn_run 2 (show tkDn tm_133 (64, [some (.inr (.inr (6, 0, 0))), some (.inl u), some (.inl v), some (.inl l), some (.inl h)], [.inl (-14)], (I, J, R)) _ from ?_)
            refine dn_ret0 rfl rfl rfl rfl ?_
            rw [hL] at c5
            have hlt : sL S = 60 := (nI_eq (b := 60) (by omega) (by decide)).mp c5
            rw [show opWish S u v l h = (-14, S) by unfold opWish; rw [if_pos hrf, if_pos (by omega)]] at hQ
            have := hQ (I 6 0) hP mOth.rfl' ⟨fun _ => ⟨rfl, rfl⟩, fun q => absurd (show ((-14) : Int32) < 0 by decide) q⟩
            rw [tk_so_id] at this
            exact this
        · show tkDn tm_133 (36, [some (.inr (.inr (6, 0, 0))), some (.inl u), some (.inl v), some (.inl l), some (.inl h)], [], (I, J, R)) _
          refine dn_run 1 (show tkDn tm_133 (38, [some (.inr (.inr (6, 0, 0))), some (.inl u), some (.inl v), some (.inl l), some (.inl h)], [.inl (-12)], (I, J, R)) _ from ?_)
          refine dn_ret0 rfl rfl rfl rfl ?_
          have hrf : rfF S u v l h (-100000) = -12 := by unfold rfF; rw [if_neg (fun q => q ⟨k1, k2⟩), if_neg c3, if_neg (fun q => by rw [if_pos q] at c4; exact absurd c4 (by decide))]
          rw [show opWish S u v l h = (-12, S) by unfold opWish; rw [hrf]; rw [if_neg (by decide)]] at hQ
          have := hQ (I 6 0) hP mOth.rfl' ⟨fun _ => ⟨rfl, rfl⟩, fun q => absurd (show ((-12) : Int32) < 0 by decide) q⟩
          rw [tk_so_id] at this
          exact this
      · show tkDn tm_133 (24, [some (.inr (.inr (6, 0, 0))), some (.inl u), some (.inl v), some (.inl l), some (.inl h)], [], (I, J, R)) _
        refine dn_run 1 (show tkDn tm_133 (26, [some (.inr (.inr (6, 0, 0))), some (.inl u), some (.inl v), some (.inl l), some (.inl h)], [.inl (-13)], (I, J, R)) _ from ?_)
        refine dn_ret0 rfl rfl rfl rfl ?_
        have hrf : rfF S u v l h (-100000) = -13 := by unfold rfF; rw [if_neg (fun q => q ⟨k1, k2⟩), if_pos c3]
        rw [show opWish S u v l h = (-13, S) by unfold opWish; rw [hrf]; rw [if_neg (by decide)]] at hQ
        have := hQ (I 6 0) hP mOth.rfl' ⟨fun _ => ⟨rfl, rfl⟩, fun q => absurd (show ((-13) : Int32) < 0 by decide) q⟩
        rw [tk_so_id] at this
        exact this
    · show tkDn tm_133 (16, [some (.inr (.inr (6, 0, 0))), some (.inl u), some (.inl v), some (.inl l), some (.inl h)], [], (I, J, R)) _
      refine dn_run 1 (show tkDn tm_133 (18, [some (.inr (.inr (6, 0, 0))), some (.inl u), some (.inl v), some (.inl l), some (.inl h)], [.inl (-11)], (I, J, R)) _ from ?_)
      refine dn_ret0 rfl rfl rfl rfl ?_
      have hrf : rfF S u v l h (-100000) = -11 := by unfold rfF; rw [if_pos (fun q => by rw [if_pos q.2] at c2; exact absurd rfl c2)]
      rw [show opWish S u v l h = (-11, S) by unfold opWish; rw [hrf]; rw [if_neg (by decide)]] at hQ
      have := hQ (I 6 0) hP mOth.rfl' ⟨fun _ => ⟨rfl, rfl⟩, fun q => absurd (show ((-11) : Int32) < 0 by decide) q⟩
      rw [tk_so_id] at this
      exact this
theorem sm_gift {I : tkI} {J : tkJ} {R : Nat → Nat} {Q : tkQ} {S : tkS} (hP : NetP (I 6 0) S) (w : WF S) {u v l h : Int32} (hQ : ∀ X, NetP X (opGift S u v l h).2 → mOth (I 6 0) X → mFl (opGift S u v l h).1 (I 6 0) X → Q (some (.inl (opGift S u v l h).1)) (tk_so I 6 0 X, J, R)) : tkDn tm_135 (0, [some (.inr (.inr (6, 0, 0))), some (.inl u), some (.inl v), some (.inl l), some (.inl h)], [], (I, J, R)) Q := by
  have hM16 := w.1
  have hL60 := w.2.1
  have hG6 := w.2.2.1
  have hL := hP.l
  have hG := hP.g
  refine dn_run 2 (show tkDn tm_135 (2, [some (.inr (.inr (6, 0, 0))), some (.inl u), some (.inl v), some (.inl l), some (.inl h)], [.inl u, .inr (.inr (6, 0, 0))], (I, J, R)) _ from ?_)
  refine dn_call rfl rfl rfl rfl rfl (sm_noMoment hP w ?_)
  show tkDn tm_135 (5, [some (.inr (.inr (6, 0, 0))), some (.inl u), some (.inl v), some (.inl l), some (.inl h)], [.inl (if hasM S u then 0 else 1)], (I, J, R)) _
  refine dn_if rfl rfl rfl (fun (c1 : ¬ (if hasM S u then 0 else 1) = 0) => ?_) (fun (c1 : (if hasM S u then 0 else 1) = 0) => ?_)
  · show tkDn tm_135 (16, [some (.inr (.inr (6, 0, 0))), some (.inl u), some (.inl v), some (.inl l), some (.inl h)], [], (I, J, R)) _
    refine dn_run 1 (show tkDn tm_135 (18, [some (.inr (.inr (6, 0, 0))), some (.inl u), some (.inl v), some (.inl l), some (.inl h)], [.inl (-11)], (I, J, R)) _ from ?_)
    refine dn_ret0 rfl rfl rfl rfl ?_
    have hrf : rfF S u v l h 1 = -11 := by unfold rfF; rw [if_pos (fun q => by rw [if_pos q.1] at c1; exact absurd rfl c1)]
    rw [show opGift S u v l h = (-11, S) by unfold opGift; rw [hrf]; rw [if_neg (by decide)]] at hQ
    have := hQ (I 6 0) hP mOth.rfl' ⟨fun _ => ⟨rfl, rfl⟩, fun q => absurd (show ((-11) : Int32) < 0 by decide) q⟩
    rw [tk_so_id] at this
    exact this
  · show tkDn tm_135 (8, [some (.inr (.inr (6, 0, 0))), some (.inl u), some (.inl v), some (.inl l), some (.inl h)], [], (I, J, R)) _
    have k1 : hasM S u := by by_cases q : hasM S u; exact q; rw [if_neg q] at c1; exact absurd c1 (by decide)
    refine dn_run 2 (show tkDn tm_135 (10, [some (.inr (.inr (6, 0, 0))), some (.inl u), some (.inl v), some (.inl l), some (.inl h)], [.inl v, .inr (.inr (6, 0, 0))], (I, J, R)) _ from ?_)
    refine dn_call rfl rfl rfl rfl rfl (sm_noMoment hP w ?_)
    show tkDn tm_135 (13, [some (.inr (.inr (6, 0, 0))), some (.inl u), some (.inl v), some (.inl l), some (.inl h)], [.inl (if hasM S v then 0 else 1)], (I, J, R)) _
    refine dn_if rfl rfl rfl (fun (c2 : (if hasM S v then 0 else 1) = 0) => ?_) (fun (c2 : ¬ (if hasM S v then 0 else 1) = 0) => ?_)
    · show tkDn tm_135 (19, [some (.inr (.inr (6, 0, 0))), some (.inl u), some (.inl v), some (.inl l), some (.inl h)], [], (I, J, R)) _
      have k2 : hasM S v := by by_cases q : hasM S v; exact q; rw [if_neg q] at c2; exact absurd c2 (by decide)
      refine dn_run 2 (show tkDn tm_135 (21, [some (.inr (.inr (6, 0, 0))), some (.inl u), some (.inl v), some (.inl l), some (.inl h)], [.inl v, .inl u], (I, J, R)) _ from ?_)
      refine dn_if rfl rfl rfl (fun (c3 : ¬ u = v) => ?_) (fun (c3 : u = v) => ?_)
      · show tkDn tm_135 (27, [some (.inr (.inr (6, 0, 0))), some (.inl u), some (.inl v), some (.inl l), some (.inl h)], [], (I, J, R)) _
        refine dn_run 2 (show tkDn tm_135 (30, [some (.inr (.inr (6, 0, 0))), some (.inl u), some (.inl v), some (.inl l), some (.inl h)], [.inl h, .inl l], (I, J, R)) _ from ?_)
        refine dn_call rfl rfl rfl rfl rfl (sm_areBounds ?_)
        show tkDn tm_135 (33, [some (.inr (.inr (6, 0, 0))), some (.inl u), some (.inl v), some (.inl l), some (.inl h)], [.inl (if fitB l h (-100000) then 1 else 0)], (I, J, R)) _
        refine dn_if rfl rfl rfl (fun (c4 : (if fitB l h (-100000) then 1 else 0) = 0) => ?_) (fun (c4 : ¬ (if fitB l h (-100000) then 1 else 0) = 0) => ?_)
        · show tkDn tm_135 (41, [some (.inr (.inr (6, 0, 0))), some (.inl u), some (.inl v), some (.inl l), some (.inl h)], [], (I, J, R)) _
          refine dn_run 1 (show tkDn tm_135 (43, [some (.inr (.inr (6, 0, 0))), some (.inl u), some (.inl v), some (.inl l), some (.inl h)], [.inl (-12)], (I, J, R)) _ from ?_)
          refine dn_ret0 rfl rfl rfl rfl ?_
          have hrf : rfF S u v l h 1 = -12 := by unfold rfF; rw [if_neg (fun q => q ⟨k1, k2⟩), if_neg c3, if_neg (fun q => by rw [if_pos ⟨Int32.le_trans (by decide) q.1, q.2⟩] at c4; exact absurd c4 (by decide))]
          rw [show opGift S u v l h = (-12, S) by unfold opGift; rw [hrf]; rw [if_neg (by decide)]] at hQ
          have := hQ (I 6 0) hP mOth.rfl' ⟨fun _ => ⟨rfl, rfl⟩, fun q => absurd (show ((-12) : Int32) < 0 by decide) q⟩
          rw [tk_so_id] at this
          exact this
        · show tkDn tm_135 (36, [some (.inr (.inr (6, 0, 0))), some (.inl u), some (.inl v), some (.inl l), some (.inl h)], [], (I, J, R)) _
          have k4 : fitB l h (-100000) := by by_cases q : fitB l h (-100000); exact q; exact absurd (if_neg q) c4
          refine dn_run 2 (show tkDn tm_135 (38, [some (.inr (.inr (6, 0, 0))), some (.inl u), some (.inl v), some (.inl l), some (.inl h)], [.inl 1, .inl l], (I, J, R)) _ from ?_)
          refine dn_if rfl rfl rfl (fun (c5 : 1 ≤ l) => ?_) (fun (c5 : ¬ 1 ≤ l) => ?_)
          · show tkDn tm_135 (44, [some (.inr (.inr (6, 0, 0))), some (.inl u), some (.inl v), some (.inl l), some (.inl h)], [], (I, J, R)) _
            have hrf : rfF S u v l h 1 = 0 := by unfold rfF; rw [if_neg (fun q => q ⟨k1, k2⟩), if_neg c3, if_pos ⟨c5, k4.2⟩]
            obtain ⟨u, hu, rfl, hu2⟩ := hasM_nat hM16 k1
            obtain ⟨v, hv, rfl, hv2⟩ := hasM_nat hM16 k2
            show tkDn tm_135 (44, [some (.inr (.inr (6, 0, 0))), some (.inl (nI u)), some (.inl (nI v)), some (.inl l), some (.inl h)], [], (I, J, R)) _
            refine dn_run 2 (show tkDn tm_135 (46, [some (.inr (.inr (6, 0, 0))), some (.inl (nI u)), some (.inl (nI v)), some (.inl l), some (.inl h)], [.inl (nI v), .inr (.inr (6, 0, 0))], (I, J, R)) _ from ?_)
            refine dn_call rfl rfl rfl rfl rfl (sm_giftTo hP w (by omega) ?_)
            show tkDn tm_135 (49, [some (.inr (.inr (6, 0, 0))), some (.inl (nI u)), some (.inl (nI v)), some (.inl l), some (.inl h)], [.inl (if gt S v < sG S then nI (gt S v) else -1)], (I, J, R)) _
            refine dn_if rfl rfl rfl (fun (c6 : 0 ≤ (if gt S v < sG S then nI (gt S v) else -1)) => ?_) (fun (c6 : ¬ 0 ≤ (if gt S v < sG S then nI (gt S v) else -1)) => ?_)
            · show tkDn tm_135 (61, [some (.inr (.inr (6, 0, 0))), some (.inl (nI u)), some (.inl (nI v)), some (.inl l), some (.inl h)], [], (I, J, R)) _
              refine dn_run 1 (show tkDn tm_135 (63, [some (.inr (.inr (6, 0, 0))), some (.inl (nI u)), some (.inl (nI v)), some (.inl l), some (.inl h)], [.inl (-13)], (I, J, R)) _ from ?_)
              refine dn_ret0 rfl rfl rfl rfl ?_
              rw [show opGift S (nI u) (nI v) l h = (-13, S) by unfold opGift; rw [if_pos hrf, hu2, hv2, if_pos (Or.inl (by by_cases q : gt S v < sG S; exact q; rw [if_neg q] at c6; exact absurd c6 (by decide)))]] at hQ
              have := hQ (I 6 0) hP mOth.rfl' ⟨fun _ => ⟨rfl, rfl⟩, fun q => absurd (show ((-13) : Int32) < 0 by decide) q⟩
              rw [tk_so_id] at this
              exact this
            · show tkDn tm_135 (52, [some (.inr (.inr (6, 0, 0))), some (.inl (nI u)), some (.inl (nI v)), some (.inl l), some (.inl h)], [], (I, J, R)) _
              have hg : ¬ gt S v < sG S := fun q => by rw [if_pos q] at c6; exact c6 (nI_pos' (by omega))
              refine dn_run 3 (show tkDn tm_135 (55, [some (.inr (.inr (6, 0, 0))), some (.inl (nI u)), some (.inl (nI v)), some (.inl l), some (.inl h)], [.inl (nI v), .inl (nI u), .inr (.inr (6, 0, 0))], (I, J, R)) _ from ?_)
              refine dn_call rfl rfl rfl rfl rfl (sm_comesFrom hP w hu (by omega) ?_)
              show tkDn tm_135 (58, [some (.inr (.inr (6, 0, 0))), some (.inl (nI u)), some (.inl (nI v)), some (.inl l), some (.inl h)], [.inl (if cfF S v 7 u = true then 1 else 0)], (I, J, R)) _
              refine dn_if rfl rfl rfl (fun (c7 : (if cfF S v 7 u = true then 1 else 0) = 0) => ?_) (fun (c7 : ¬ (if cfF S v 7 u = true then 1 else 0) = 0) => ?_)
              · show tkDn tm_135 (64, [some (.inr (.inr (6, 0, 0))), some (.inl (nI u)), some (.inl (nI v)), some (.inl l), some (.inl h)], [], (I, J, R)) _
                have hc : ¬ cfF S v 7 u = true := fun q => by rw [if_pos q] at c7; exact absurd c7 (by decide)
                have hn : ¬ (gt S v < sG S ∨ cfF S v 7 u = true) := fun q => q.elim hg hc
                refine dn_run 3 (show tkDn tm_135 (70, [some (.inr (.inr (6, 0, 0))), some (.inl (nI u)), some (.inl (nI v)), some (.inl l), some (.inl h)], [.inl 60, .inl (I 6 0 0 1)], (I, J, R)) _ from ?_)
                refine dn_if rfl rfl rfl (fun (c8 : (I 6 0 0 1) = 60) => ?_) (fun (c8 : ¬ (I 6 0 0 1) = 60) => ?_)
                · show tkDn tm_135 (82, [some (.inr (.inr (6, 0, 0))), some (.inl (nI u)), some (.inl (nI v)), some (.inl l), some (.inl h)], [], (I, J, R)) _
                  refine dn_run 1 (show tkDn tm_135 (84, [some (.inr (.inr (6, 0, 0))), some (.inl (nI u)), some (.inl (nI v)), some (.inl l), some (.inl h)], [.inl (-14)], (I, J, R)) _ from ?_)
                  refine dn_ret0 rfl rfl rfl rfl ?_
                  rw [hL] at c8
                  rw [show opGift S (nI u) (nI v) l h = (-14, S) by unfold opGift; rw [if_pos hrf, hu2, hv2, if_neg hn, if_pos (Or.inl (by have : sL S = 60 := (nI_eq (b := 60) (by omega) (by decide)).mp c8; omega))]] at hQ
                  have := hQ (I 6 0) hP mOth.rfl' ⟨fun _ => ⟨rfl, rfl⟩, fun q => absurd (show ((-14) : Int32) < 0 by decide) q⟩
                  rw [tk_so_id] at this
                  exact this
                · show tkDn tm_135 (73, [some (.inr (.inr (6, 0, 0))), some (.inl (nI u)), some (.inl (nI v)), some (.inl l), some (.inl h)], [], (I, J, R)) _
                  rw [hL] at c8
                  have hlt : sL S < 60 := Nat.lt_of_le_of_ne hL60 (fun z => c8 (by rw [z]; rfl))
                  refine dn_run 3 (show tkDn tm_135 (79, [some (.inr (.inr (6, 0, 0))), some (.inl (nI u)), some (.inl (nI v)), some (.inl l), some (.inl h)], [.inl 6, .inl (I 6 0 0 2)], (I, J, R)) _ from ?_)
                  refine dn_if rfl rfl rfl (fun (c9 : ¬ (I 6 0 0 2) = 6) => ?_) (fun (c9 : (I 6 0 0 2) = 6) => ?_)
                  · show tkDn tm_135 (85, [some (.inr (.inr (6, 0, 0))), some (.inl (nI u)), some (.inl (nI v)), some (.inl l), some (.inl h)], [], (I, J, R)) _
                    rw [hG] at c9
                    have hgt : sG S < 6 := Nat.lt_of_le_of_ne hG6 (fun z => c9 (by rw [z]; rfl))
                    rw [show opGift S (nI u) (nI v) l h = (nI (sL S), app (addG S) u v l h (nI (sG S))) by unfold opGift; rw [if_pos hrf, hu2, hv2, if_neg hn, if_neg (by omega)]] at hQ
                    refine dn_run 22 (show (vp_in (I 6 0 0 2) 6) ∧ tkDn tm_135 (120, [some (.inr (.inr (6, 0, 0))), some (.inl (nI u)), some (.inl (nI v)), some (.inl l), some (.inl h)], [.inl (((I 6 0 0 2) + 1) - 1), .inl h, .inl l, .inl (nI v), .inl (nI u), .inr (.inr (6, 0, 0))], (tk_so (tk_so I 6 0 (tk_u2 (I 6 0) 9 ((I 6 0 0 2).toNatClampNeg) (I 6 0 0 1))) 6 0 (tk_u2 (tk_u2 (I 6 0) 9 ((I 6 0 0 2).toNatClampNeg) (I 6 0 0 1)) 0 2 ((I 6 0 0 2) + 1)), J, R)) _ from ⟨by rw [hG]; exact vp_in_nI hgt (by omega), ?_⟩)
                    rw [tk_so_so]
                    have hP2 : NetP (tk_so I 6 0 (tk_u2 (tk_u2 (I 6 0) 9 ((I 6 0 0 2).toNatClampNeg) (I 6 0 0 1)) 0 2 ((I 6 0 0 2) + 1)) 6 0) (addG S) := by rw [tk_so_same]; exact NetP_addG hP (by rw [hG, nI_clamp (by omega)]) hL (by rw [hG]; rw [nI_1])
                    rw [show I 6 0 0 2 + 1 - 1 = nI (sG S) by rw [hG]; rw [nI_1, nI_sub1]]
                    refine dn_call rfl rfl rfl rfl rfl (sm_added (S := addG S) hP2 hlt (fun X hX h1 h2 => ?_))
                    rw [tk_so_so]
                    rw [tk_so_same] at h1 h2
                    show tkDn tm_135 (123, [some (.inr (.inr (6, 0, 0))), some (.inl (nI u)), some (.inl (nI v)), some (.inl l), some (.inl h)], [.inl (nI (sL S))], (tk_so I 6 0 X, J, R)) _
                    refine dn_ret0 rfl rfl rfl rfl ?_
                    refine hQ X hX ?_ ⟨fun q => absurd q (nI_pos (by omega)), fun q => h2.2 (nI_pos (by show sL S < _; omega))⟩
                    refine ⟨fun k a1 a2 a3 => ?_, fun s hs => ?_⟩
                    · rw [h1.1 k a1 a2 a3, tk_u2_0 (by omega), tk_u2_0 (by omega)]
                    · rw [h1.2 s hs, tk_u2_ne (by omega), tk_u2_ne (by omega)]
                  · show tkDn tm_135 (82, [some (.inr (.inr (6, 0, 0))), some (.inl (nI u)), some (.inl (nI v)), some (.inl l), some (.inl h)], [], (I, J, R)) _
                    refine dn_run 1 (show tkDn tm_135 (84, [some (.inr (.inr (6, 0, 0))), some (.inl (nI u)), some (.inl (nI v)), some (.inl l), some (.inl h)], [.inl (-14)], (I, J, R)) _ from ?_)
                    refine dn_ret0 rfl rfl rfl rfl ?_
                    rw [hG] at c9
                    rw [show opGift S (nI u) (nI v) l h = (-14, S) by unfold opGift; rw [if_pos hrf, hu2, hv2, if_neg hn, if_pos (Or.inr (by have : sG S = 6 := (nI_eq (b := 6) (by omega) (by decide)).mp c9; omega))]] at hQ
                    have := hQ (I 6 0) hP mOth.rfl' ⟨fun _ => ⟨rfl, rfl⟩, fun q => absurd (show ((-14) : Int32) < 0 by decide) q⟩
                    rw [tk_so_id] at this
                    exact this
              · show tkDn tm_135 (61, [some (.inr (.inr (6, 0, 0))), some (.inl (nI u)), some (.inl (nI v)), some (.inl l), some (.inl h)], [], (I, J, R)) _
                refine dn_run 1 (show tkDn tm_135 (63, [some (.inr (.inr (6, 0, 0))), some (.inl (nI u)), some (.inl (nI v)), some (.inl l), some (.inl h)], [.inl (-13)], (I, J, R)) _ from ?_)
                refine dn_ret0 rfl rfl rfl rfl ?_
                rw [show opGift S (nI u) (nI v) l h = (-13, S) by unfold opGift; rw [if_pos hrf, hu2, hv2, if_pos (Or.inr (by by_cases q : cfF S v 7 u = true; exact q; exact absurd (if_neg q) c7))]] at hQ
                have := hQ (I 6 0) hP mOth.rfl' ⟨fun _ => ⟨rfl, rfl⟩, fun q => absurd (show ((-13) : Int32) < 0 by decide) q⟩
                rw [tk_so_id] at this
                exact this
          · show tkDn tm_135 (41, [some (.inr (.inr (6, 0, 0))), some (.inl u), some (.inl v), some (.inl l), some (.inl h)], [], (I, J, R)) _
            refine dn_run 1 (show tkDn tm_135 (43, [some (.inr (.inr (6, 0, 0))), some (.inl u), some (.inl v), some (.inl l), some (.inl h)], [.inl (-12)], (I, J, R)) _ from ?_)
            refine dn_ret0 rfl rfl rfl rfl ?_
            have hrf : rfF S u v l h 1 = -12 := by unfold rfF; rw [if_neg (fun q => q ⟨k1, k2⟩), if_neg c3, if_neg (fun q => c5 q.1)]
            rw [show opGift S u v l h = (-12, S) by unfold opGift; rw [hrf]; rw [if_neg (by decide)]] at hQ
            have := hQ (I 6 0) hP mOth.rfl' ⟨fun _ => ⟨rfl, rfl⟩, fun q => absurd (show ((-12) : Int32) < 0 by decide) q⟩
            rw [tk_so_id] at this
            exact this
      · show tkDn tm_135 (24, [some (.inr (.inr (6, 0, 0))), some (.inl u), some (.inl v), some (.inl l), some (.inl h)], [], (I, J, R)) _
        refine dn_run 1 (show tkDn tm_135 (26, [some (.inr (.inr (6, 0, 0))), some (.inl u), some (.inl v), some (.inl l), some (.inl h)], [.inl (-13)], (I, J, R)) _ from ?_)
        refine dn_ret0 rfl rfl rfl rfl ?_
        have hrf : rfF S u v l h 1 = -13 := by unfold rfF; rw [if_neg (fun q => q ⟨k1, k2⟩), if_pos c3]
        rw [show opGift S u v l h = (-13, S) by unfold opGift; rw [hrf]; rw [if_neg (by decide)]] at hQ
        have := hQ (I 6 0) hP mOth.rfl' ⟨fun _ => ⟨rfl, rfl⟩, fun q => absurd (show ((-13) : Int32) < 0 by decide) q⟩
        rw [tk_so_id] at this
        exact this
    · show tkDn tm_135 (16, [some (.inr (.inr (6, 0, 0))), some (.inl u), some (.inl v), some (.inl l), some (.inl h)], [], (I, J, R)) _
      refine dn_run 1 (show tkDn tm_135 (18, [some (.inr (.inr (6, 0, 0))), some (.inl u), some (.inl v), some (.inl l), some (.inl h)], [.inl (-11)], (I, J, R)) _ from ?_)
      refine dn_ret0 rfl rfl rfl rfl ?_
      have hrf : rfF S u v l h 1 = -11 := by unfold rfF; rw [if_pos (fun q => by rw [if_pos q.2] at c2; exact absurd rfl c2)]
      rw [show opGift S u v l h = (-11, S) by unfold opGift; rw [hrf]; rw [if_neg (by decide)]] at hQ
      have := hQ (I 6 0) hP mOth.rfl' ⟨fun _ => ⟨rfl, rfl⟩, fun q => absurd (show ((-11) : Int32) < 0 by decide) q⟩
      rw [tk_so_id] at this
      exact this
theorem sm_undo {I : tkI} {J : tkJ} {R : Nat → Nat} {Q : tkQ} {S : tkS} (hP : NetP (I 6 0) S) (w : WF S) (hQ : ∀ X, NetP X (opUndo S).2 → mOth (I 6 0) X → mFl (opUndo S).1 (I 6 0) X → Q (some (.inl (opUndo S).1)) (tk_so I 6 0 X, J, R)) : tkDn tm_136 (0, [some (.inr (.inr (6, 0, 0)))], [], (I, J, R)) Q := by
  have hL60 := w.2.1
  have hG6 := w.2.2.1
  have hL := hP.l
  have hG := hP.g
  refine dn_run 2 (show tkDn tm_136 (4, [some (.inr (.inr (6, 0, 0)))], [.inl (I 6 0 0 1)], (I, J, R)) _ from ?_)
  refine dn_if rfl rfl rfl (fun (c1 : ¬ (I 6 0 0 1) = 0) => ?_) (fun (c1 : (I 6 0 0 1) = 0) => ?_)
  · show tkDn tm_136 (10, [some (.inr (.inr (6, 0, 0)))], [], (I, J, R)) _
    rw [hL] at c1
    have h0 : 0 < sL S := Nat.pos_of_ne_zero (fun q => c1 (by rw [q]; rfl))
    have e1 : I 6 0 0 1 - 1 = nI (sL S - 1) := by rw [hL]; obtain ⟨n, hn⟩ : ∃ n, sL S = n + 1 := ⟨sL S - 1, by omega⟩; rw [hn]; exact nI_sub1
    have e2 : I 6 0 8 (nI (sL S - 1)).toNatClampNeg = sgn S (sL S - 1) := hP.gn w (by omega)
    refine dn_run 6 (show tkDn tm_136 (20, [some (.inr (.inr (6, 0, 0)))], [], (tk_so I 6 0 (tk_u2 (I 6 0) 0 1 ((I 6 0 0 1) - 1)), J, R)) _ from ?_)
    rw [e1]
    show tkDn tm_136 (20, [some (.inr (.inr (6, 0, 0)))], [], (tk_so I 6 0 (tk_u2 (I 6 0) 0 1 (nI (sL S - 1))), J, R)) _
    refine dn_run 8 (show (vp_in (nI (sL S - 1)) 60) ∧ tkDn tm_136 (34, [some (.inr (.inr (6, 0, 0)))], [.inl (I 6 0 8 ((nI (sL S - 1)).toNatClampNeg)), .inl (I 6 0 0 2), .inr (.inr (6, 0, 0))], (tk_so I 6 0 (tk_u2 (I 6 0) 0 1 (nI (sL S - 1))), J, R)) _ from ⟨vp_in_nI (by omega) (by omega), ?_⟩)
    refine dn_if rfl rfl rfl (fun (c2 : (I 6 0 8 ((nI (sL S - 1)).toNatClampNeg)) < 0) => ?_) (fun (c2 : ¬ (I 6 0 8 ((nI (sL S - 1)).toNatClampNeg)) < 0) => ?_)
    · show tkDn tm_136 (41, [some (.inr (.inr (6, 0, 0)))], [.inl (I 6 0 0 2), .inr (.inr (6, 0, 0))], (tk_so I 6 0 (tk_u2 (I 6 0) 0 1 (nI (sL S - 1))), J, R)) _
      rw [e2] at c2
      have hs : sgn S (sL S - 1) = -9 := by rcases (w.2.2.2.1 (sL S - 1) (by omega)).2.2.2.2 with q | ⟨g, q, q2, -⟩; exact q; rw [q2] at c2; exact absurd c2 (nI_pos (by omega))
      refine dn_run 4 (show tkDn tm_136 (47, [some (.inr (.inr (6, 0, 0)))], [.inr (.inr (6, 0, 0))], (tk_so (tk_so I 6 0 (tk_u2 (I 6 0) 0 1 (nI (sL S - 1)))) 6 0 (tk_u2 (tk_u2 (I 6 0) 0 1 (nI (sL S - 1))) 0 2 ((I 6 0 0 2) - 0)), J, R)) _ from ?_)
      rw [tk_so_so]
      refine dn_call rfl rfl rfl rfl rfl ?_
      show tkDn tm_127 (0, [some (.inr (.inr (6, 0, 0)))], [], (tk_so I 6 0 (tk_u2 (tk_u2 (I 6 0) 0 1 (nI (sL S - 1))) 0 2 ((I 6 0 0 2) - 0)), J, R)) _
      refine dn_run 6 (show (0 = 0 ∨ 0 = 1) ∧ (0 = 0 ∨ 0 = 1) ∧ tkDn tm_127 (10, [some (.inr (.inr (6, 0, 0)))], [], (tk_so (tk_so (tk_so I 6 0 (tk_u2 (tk_u2 (I 6 0) 0 1 (nI (sL S - 1))) 0 2 ((I 6 0 0 2) - 0))) 6 0 (tk_u2 (tk_u2 (tk_u2 (I 6 0) 0 1 (nI (sL S - 1))) 0 2 ((I 6 0 0 2) - 0)) 0 10 0)) 6 0 (tk_u2 (tk_u2 (tk_u2 (tk_u2 (I 6 0) 0 1 (nI (sL S - 1))) 0 2 ((I 6 0 0 2) - 0)) 0 10 0) 0 11 0), J, R)) _ from ⟨Or.inl rfl, Or.inl rfl, ?_⟩)
      rw [tk_so_so, tk_so_so]
      refine dn_ret0 rfl rfl rfl rfl ?_
      show tkDn tm_136 (50, [some (.inr (.inr (6, 0, 0)))], [], (tk_so I 6 0 (tk_u2 (tk_u2 (tk_u2 (tk_u2 (I 6 0) 0 1 (nI (sL S - 1))) 0 2 ((I 6 0 0 2) - 0)) 0 10 0) 0 11 0), J, R)) _
      refine dn_run 2 (show tkDn tm_136 (54, [some (.inr (.inr (6, 0, 0)))], [.inl (nI (sL S - 1))], (tk_so I 6 0 (tk_u2 (tk_u2 (tk_u2 (tk_u2 (I 6 0) 0 1 (nI (sL S - 1))) 0 2 ((I 6 0 0 2) - 0)) 0 10 0) 0 11 0), J, R)) _ from ?_)
      refine dn_ret0 rfl rfl rfl rfl ?_
      rw [show opUndo S = (nI (sL S - 1), (sM S, sL S - 1, sG S, S.2.2.2)) by unfold opUndo; rw [if_neg (by omega), if_pos hs]] at hQ
      refine hQ _ (NetP_fl (NetP_undo hP (by omega) h0 rfl (by rw [hG]; exact Int32.sub_zero (a := nI (sG S))))) ?_ ⟨fun q => absurd q (nI_pos (by omega)), fun _ => ⟨by rw [tk_u2_0 (by decide), tk_u2_1], tk_u2_1⟩⟩
      refine mOth_u (mOth_u (mOth_u (mOth_u mOth.rfl' ?_) ?_) ?_) ?_ <;> omega
    · show tkDn tm_136 (37, [some (.inr (.inr (6, 0, 0)))], [.inl (I 6 0 0 2), .inr (.inr (6, 0, 0))], (tk_so I 6 0 (tk_u2 (I 6 0) 0 1 (nI (sL S - 1))), J, R)) _
      rw [e2] at c2
      have hs : ¬ sgn S (sL S - 1) = -9 := fun q => c2 (by rw [q]; decide)
      have hg0 : 0 < sG S := by rcases (w.2.2.2.1 (sL S - 1) (by omega)).2.2.2.2 with q | ⟨g, q, -⟩; exact absurd q hs; omega
      refine dn_run 5 (show tkDn tm_136 (47, [some (.inr (.inr (6, 0, 0)))], [.inr (.inr (6, 0, 0))], (tk_so (tk_so I 6 0 (tk_u2 (I 6 0) 0 1 (nI (sL S - 1)))) 6 0 (tk_u2 (tk_u2 (I 6 0) 0 1 (nI (sL S - 1))) 0 2 ((I 6 0 0 2) - 1)), J, R)) _ from ?_)
      rw [tk_so_so]
      refine dn_call rfl rfl rfl rfl rfl ?_
      show tkDn tm_127 (0, [some (.inr (.inr (6, 0, 0)))], [], (tk_so I 6 0 (tk_u2 (tk_u2 (I 6 0) 0 1 (nI (sL S - 1))) 0 2 ((I 6 0 0 2) - 1)), J, R)) _
      refine dn_run 6 (show (0 = 0 ∨ 0 = 1) ∧ (0 = 0 ∨ 0 = 1) ∧ tkDn tm_127 (10, [some (.inr (.inr (6, 0, 0)))], [], (tk_so (tk_so (tk_so I 6 0 (tk_u2 (tk_u2 (I 6 0) 0 1 (nI (sL S - 1))) 0 2 ((I 6 0 0 2) - 1))) 6 0 (tk_u2 (tk_u2 (tk_u2 (I 6 0) 0 1 (nI (sL S - 1))) 0 2 ((I 6 0 0 2) - 1)) 0 10 0)) 6 0 (tk_u2 (tk_u2 (tk_u2 (tk_u2 (I 6 0) 0 1 (nI (sL S - 1))) 0 2 ((I 6 0 0 2) - 1)) 0 10 0) 0 11 0), J, R)) _ from ⟨Or.inl rfl, Or.inl rfl, ?_⟩)
      rw [tk_so_so, tk_so_so]
      refine dn_ret0 rfl rfl rfl rfl ?_
      show tkDn tm_136 (50, [some (.inr (.inr (6, 0, 0)))], [], (tk_so I 6 0 (tk_u2 (tk_u2 (tk_u2 (tk_u2 (I 6 0) 0 1 (nI (sL S - 1))) 0 2 ((I 6 0 0 2) - 1)) 0 10 0) 0 11 0), J, R)) _
      refine dn_run 2 (show tkDn tm_136 (54, [some (.inr (.inr (6, 0, 0)))], [.inl (nI (sL S - 1))], (tk_so I 6 0 (tk_u2 (tk_u2 (tk_u2 (tk_u2 (I 6 0) 0 1 (nI (sL S - 1))) 0 2 ((I 6 0 0 2) - 1)) 0 10 0) 0 11 0), J, R)) _ from ?_)
      refine dn_ret0 rfl rfl rfl rfl ?_
      rw [show opUndo S = (nI (sL S - 1), (sM S, sL S - 1, sG S - 1, S.2.2.2)) by unfold opUndo; rw [if_neg (by omega), if_neg hs]] at hQ
      refine hQ _ (NetP_fl (NetP_undo hP (by omega) h0 rfl (by rw [hG]; obtain ⟨n, hn⟩ : ∃ n, sG S = n + 1 := ⟨sG S - 1, by omega⟩; rw [hn]; exact nI_sub1))) ?_ ⟨fun q => absurd q (nI_pos (by omega)), fun _ => ⟨by rw [tk_u2_0 (by decide), tk_u2_1], tk_u2_1⟩⟩
      refine mOth_u (mOth_u (mOth_u (mOth_u mOth.rfl' ?_) ?_) ?_) ?_ <;> omega
  · show tkDn tm_136 (7, [some (.inr (.inr (6, 0, 0)))], [], (I, J, R)) _
    refine dn_run 1 (show tkDn tm_136 (9, [some (.inr (.inr (6, 0, 0)))], [.inl (-13)], (I, J, R)) _ from ?_)
    refine dn_ret0 rfl rfl rfl rfl ?_
    rw [hL] at c1
    have h0 : sL S = 0 := (nI_eq (b := 0) (by omega) (by decide)).mp c1
    rw [show opUndo S = (-13, S) by unfold opUndo; rw [if_pos h0]] at hQ
    have := hQ (I 6 0) hP mOth.rfl' ⟨fun _ => ⟨rfl, rfl⟩, fun q => absurd (show ((-13) : Int32) < 0 by decide) q⟩
    rw [tk_so_id] at this
    exact this
theorem sm_tighten {I : tkI} {J : tkJ} {R : Nat → Nat} {Q : tkQ} {S : tkS} (hP : NetP (I 6 0) S) (w : WF S) {k l h : Int32} (hQ : ∀ X, NetP X (opTight S k l h).2 → mOth (I 6 0) X → mFl (opTight S k l h).1 (I 6 0) X → Q (some (.inl (opTight S k l h).1)) (tk_so I 6 0 X, J, R)) : tkDn tm_137 (0, [some (.inr (.inr (6, 0, 0))), some (.inl k), some (.inl l), some (.inl h)], [], (I, J, R)) Q := by
  have hL60 := w.2.1
  have hG6 := w.2.2.1
  have hL := hP.l
  have hiff : (0 ≤ k ∧ k ≤ I 6 0 0 1 - 1) ↔ (0 ≤ k ∧ k < nI (sL S)) := by rw [hL, le_pred (by omega)]
  refine dn_run 6 (show tkDn tm_137 (8, [some (.inr (.inr (6, 0, 0))), some (.inl k), some (.inl l), some (.inl h)], [.inl ((I 6 0 0 1) - 1), .inl 0, .inl k], (I, J, R)) _ from ?_)
  refine dn_call rfl rfl rfl rfl rfl (sm_in ?_)
  show tkDn tm_137 (11, [some (.inr (.inr (6, 0, 0))), some (.inl k), some (.inl l), some (.inl h)], [.inl (if 0 ≤ k ∧ k ≤ I 6 0 0 1 - 1 then 1 else 0)], (I, J, R)) _
  refine dn_if rfl rfl rfl (fun (c1 : ¬ (if 0 ≤ k ∧ k ≤ I 6 0 0 1 - 1 then 1 else 0) = 0) => ?_) (fun (c1 : (if 0 ≤ k ∧ k ≤ I 6 0 0 1 - 1 then 1 else 0) = 0) => ?_)
  · show tkDn tm_137 (17, [some (.inr (.inr (6, 0, 0))), some (.inl k), some (.inl l), some (.inl h)], [], (I, J, R)) _
    have hk : 0 ≤ k ∧ k < nI (sL S) := by by_cases q : 0 ≤ k ∧ k ≤ I 6 0 0 1 - 1; exact hiff.mp q; exact absurd (if_neg q) c1
    clear c1 hiff
    obtain ⟨j, hj, rfl⟩ := hasL_nat hL60 hk
    have e2 := hP.gn w hj
    have hcl : (nI j).toNatClampNeg = j := nI_clamp (by omega)
    have hsg := (w.2.2.2.1 j hj).2.2.2.2
    refine dn_run 2 (show tkDn tm_137 (19, [some (.inr (.inr (6, 0, 0))), some (.inl (nI j)), some (.inl l), some (.inl h)], [.inl h, .inl l], (I, J, R)) _ from ?_)
    refine dn_call rfl rfl rfl rfl rfl (sm_areBounds ?_)
    show tkDn tm_137 (22, [some (.inr (.inr (6, 0, 0))), some (.inl (nI j)), some (.inl l), some (.inl h)], [.inl (if fitB l h (-100000) then 1 else 0)], (I, J, R)) _
    refine dn_if rfl rfl rfl (fun (c2 : (if fitB l h (-100000) then 1 else 0) = 0) => ?_) (fun (c2 : ¬ (if fitB l h (-100000) then 1 else 0) = 0) => ?_)
    · show tkDn tm_137 (39, [some (.inr (.inr (6, 0, 0))), some (.inl (nI j)), some (.inl l), some (.inl h)], [], (I, J, R)) _
      refine dn_run 1 (show tkDn tm_137 (41, [some (.inr (.inr (6, 0, 0))), some (.inl (nI j)), some (.inl l), some (.inl h)], [.inl (-12)], (I, J, R)) _ from ?_)
      refine dn_ret0 rfl rfl rfl rfl ?_
      have k4 : ¬ fitB l h (-100000) := fun q => by rw [if_pos q] at c2; exact absurd c2 (by decide)
      have hf : ¬ fitB l h (if sgn S j = -9 then -100000 else 1) := by
        split
        · exact k4
        · exact fun q => k4 ⟨Int32.le_trans (by decide) q.1, q.2⟩
      rw [show opTight S (nI j) l h = (-12, S) by unfold opTight; rw [if_pos hk, hcl, if_neg hf]] at hQ
      have := hQ (I 6 0) hP mOth.rfl' ⟨fun _ => ⟨rfl, rfl⟩, fun q => absurd (show ((-12) : Int32) < 0 by decide) q⟩
      rw [tk_so_id] at this
      exact this
    · show tkDn tm_137 (25, [some (.inr (.inr (6, 0, 0))), some (.inl (nI j)), some (.inl l), some (.inl h)], [], (I, J, R)) _
      have k4 : fitB l h (-100000) := by by_cases q : fitB l h (-100000); exact q; exact absurd (if_neg q) c2
      refine dn_run 4 (show (vp_in (nI j) 60) ∧ tkDn tm_137 (31, [some (.inr (.inr (6, 0, 0))), some (.inl (nI j)), some (.inl l), some (.inl h)], [.inl (I 6 0 8 ((nI j).toNatClampNeg))], (I, J, R)) _ from ⟨vp_in_nI (by omega) (by omega), ?_⟩)
      refine dn_if rfl rfl rfl (fun (c3 : (I 6 0 8 ((nI j).toNatClampNeg)) < 0) => ?_) (fun (c3 : ¬ (I 6 0 8 ((nI j).toNatClampNeg)) < 0) => ?_)
      · show tkDn tm_137 (42, [some (.inr (.inr (6, 0, 0))), some (.inl (nI j)), some (.inl l), some (.inl h)], [], (I, J, R)) _
        rw [e2] at c3
        have hs : sgn S j = -9 := by rcases hsg with q | ⟨g, q, q2, -⟩; exact q; rw [q2] at c3; exact absurd c3 (nI_pos (by omega))
        have hf := k4
        refine dn_run 11 (show (vp_in (nI j) 60) ∧ (vp_in (nI j) 60) ∧ tkDn tm_137 (57, [some (.inr (.inr (6, 0, 0))), some (.inl (nI j)), some (.inl l), some (.inl h)], [.inr (.inr (6, 0, 0))], (tk_so (tk_so I 6 0 (tk_u2 (I 6 0) 6 ((nI j).toNatClampNeg) l)) 6 0 (tk_u2 (tk_u2 (I 6 0) 6 ((nI j).toNatClampNeg) l) 7 ((nI j).toNatClampNeg) h), J, R)) _ from ⟨vp_in_nI (by omega) (by omega), vp_in_nI (by omega) (by omega), ?_⟩)
        rw [tk_so_so]
        refine dn_call rfl rfl rfl rfl rfl ?_
        show tkDn tm_127 (0, [some (.inr (.inr (6, 0, 0)))], [], (tk_so I 6 0 (tk_u2 (tk_u2 (I 6 0) 6 ((nI j).toNatClampNeg) l) 7 ((nI j).toNatClampNeg) h), J, R)) _
        refine dn_run 6 (show (0 = 0 ∨ 0 = 1) ∧ (0 = 0 ∨ 0 = 1) ∧ tkDn tm_127 (10, [some (.inr (.inr (6, 0, 0)))], [], (tk_so (tk_so (tk_so I 6 0 (tk_u2 (tk_u2 (I 6 0) 6 ((nI j).toNatClampNeg) l) 7 ((nI j).toNatClampNeg) h)) 6 0 (tk_u2 (tk_u2 (tk_u2 (I 6 0) 6 ((nI j).toNatClampNeg) l) 7 ((nI j).toNatClampNeg) h) 0 10 0)) 6 0 (tk_u2 (tk_u2 (tk_u2 (tk_u2 (I 6 0) 6 ((nI j).toNatClampNeg) l) 7 ((nI j).toNatClampNeg) h) 0 10 0) 0 11 0), J, R)) _ from ⟨Or.inl rfl, Or.inl rfl, ?_⟩)
        rw [tk_so_so, tk_so_so]
        refine dn_ret0 rfl rfl rfl rfl ?_
        show tkDn tm_137 (60, [some (.inr (.inr (6, 0, 0))), some (.inl (nI j)), some (.inl l), some (.inl h)], [], (tk_so I 6 0 (tk_u2 (tk_u2 (tk_u2 (tk_u2 (I 6 0) 6 ((nI j).toNatClampNeg) l) 7 ((nI j).toNatClampNeg) h) 0 10 0) 0 11 0), J, R)) _
        refine dn_run 1 (show tkDn tm_137 (61, [some (.inr (.inr (6, 0, 0))), some (.inl (nI j)), some (.inl l), some (.inl h)], [.inl 1], (tk_so I 6 0 (tk_u2 (tk_u2 (tk_u2 (tk_u2 (I 6 0) 6 ((nI j).toNatClampNeg) l) 7 ((nI j).toNatClampNeg) h) 0 10 0) 0 11 0), J, R)) _ from ?_)
        refine dn_ret0 rfl rfl rfl rfl ?_
        rw [show opTight S (nI j) l h = (1, (sM S, sL S, sG S, sf S, se S, tk_u1 (slo S) j l, tk_u1 (shi S) j h, sgn S, sgl S)) by unfold opTight; rw [if_pos hk, hcl, if_pos hs, if_pos hf]] at hQ
        rw [hcl]
        refine hQ _ (NetP_fl (NetP_tight hP)) ?_ ⟨fun q => absurd q (show ¬ (1 : Int32) < 0 by decide), fun _ => ⟨by rw [tk_u2_0 (by decide), tk_u2_1], tk_u2_1⟩⟩
        refine mOth_u (mOth_u (mOth_u (mOth_u mOth.rfl' ?_) ?_) ?_) ?_ <;> omega
      · show tkDn tm_137 (34, [some (.inr (.inr (6, 0, 0))), some (.inl (nI j)), some (.inl l), some (.inl h)], [], (I, J, R)) _
        rw [e2] at c3
        have hs : ¬ sgn S j = -9 := fun q => c3 (by rw [q]; decide)
        refine dn_run 2 (show tkDn tm_137 (36, [some (.inr (.inr (6, 0, 0))), some (.inl (nI j)), some (.inl l), some (.inl h)], [.inl 1, .inl l], (I, J, R)) _ from ?_)
        refine dn_if rfl rfl rfl (fun (c5 : 1 ≤ l) => ?_) (fun (c5 : ¬ 1 ≤ l) => ?_)
        · show tkDn tm_137 (42, [some (.inr (.inr (6, 0, 0))), some (.inl (nI j)), some (.inl l), some (.inl h)], [], (I, J, R)) _
          have hf : fitB l h 1 := ⟨c5, k4.2⟩
          refine dn_run 11 (show (vp_in (nI j) 60) ∧ (vp_in (nI j) 60) ∧ tkDn tm_137 (57, [some (.inr (.inr (6, 0, 0))), some (.inl (nI j)), some (.inl l), some (.inl h)], [.inr (.inr (6, 0, 0))], (tk_so (tk_so I 6 0 (tk_u2 (I 6 0) 6 ((nI j).toNatClampNeg) l)) 6 0 (tk_u2 (tk_u2 (I 6 0) 6 ((nI j).toNatClampNeg) l) 7 ((nI j).toNatClampNeg) h), J, R)) _ from ⟨vp_in_nI (by omega) (by omega), vp_in_nI (by omega) (by omega), ?_⟩)
          rw [tk_so_so]
          refine dn_call rfl rfl rfl rfl rfl ?_
          show tkDn tm_127 (0, [some (.inr (.inr (6, 0, 0)))], [], (tk_so I 6 0 (tk_u2 (tk_u2 (I 6 0) 6 ((nI j).toNatClampNeg) l) 7 ((nI j).toNatClampNeg) h), J, R)) _
          refine dn_run 6 (show (0 = 0 ∨ 0 = 1) ∧ (0 = 0 ∨ 0 = 1) ∧ tkDn tm_127 (10, [some (.inr (.inr (6, 0, 0)))], [], (tk_so (tk_so (tk_so I 6 0 (tk_u2 (tk_u2 (I 6 0) 6 ((nI j).toNatClampNeg) l) 7 ((nI j).toNatClampNeg) h)) 6 0 (tk_u2 (tk_u2 (tk_u2 (I 6 0) 6 ((nI j).toNatClampNeg) l) 7 ((nI j).toNatClampNeg) h) 0 10 0)) 6 0 (tk_u2 (tk_u2 (tk_u2 (tk_u2 (I 6 0) 6 ((nI j).toNatClampNeg) l) 7 ((nI j).toNatClampNeg) h) 0 10 0) 0 11 0), J, R)) _ from ⟨Or.inl rfl, Or.inl rfl, ?_⟩)
          rw [tk_so_so, tk_so_so]
          refine dn_ret0 rfl rfl rfl rfl ?_
          show tkDn tm_137 (60, [some (.inr (.inr (6, 0, 0))), some (.inl (nI j)), some (.inl l), some (.inl h)], [], (tk_so I 6 0 (tk_u2 (tk_u2 (tk_u2 (tk_u2 (I 6 0) 6 ((nI j).toNatClampNeg) l) 7 ((nI j).toNatClampNeg) h) 0 10 0) 0 11 0), J, R)) _
          refine dn_run 1 (show tkDn tm_137 (61, [some (.inr (.inr (6, 0, 0))), some (.inl (nI j)), some (.inl l), some (.inl h)], [.inl 1], (tk_so I 6 0 (tk_u2 (tk_u2 (tk_u2 (tk_u2 (I 6 0) 6 ((nI j).toNatClampNeg) l) 7 ((nI j).toNatClampNeg) h) 0 10 0) 0 11 0), J, R)) _ from ?_)
          refine dn_ret0 rfl rfl rfl rfl ?_
          rw [show opTight S (nI j) l h = (1, (sM S, sL S, sG S, sf S, se S, tk_u1 (slo S) j l, tk_u1 (shi S) j h, sgn S, sgl S)) by unfold opTight; rw [if_pos hk, hcl, if_neg hs, if_pos hf]] at hQ
          rw [hcl]
          refine hQ _ (NetP_fl (NetP_tight hP)) ?_ ⟨fun q => absurd q (show ¬ (1 : Int32) < 0 by decide), fun _ => ⟨by rw [tk_u2_0 (by decide), tk_u2_1], tk_u2_1⟩⟩
          refine mOth_u (mOth_u (mOth_u (mOth_u mOth.rfl' ?_) ?_) ?_) ?_ <;> omega
        · show tkDn tm_137 (39, [some (.inr (.inr (6, 0, 0))), some (.inl (nI j)), some (.inl l), some (.inl h)], [], (I, J, R)) _
          refine dn_run 1 (show tkDn tm_137 (41, [some (.inr (.inr (6, 0, 0))), some (.inl (nI j)), some (.inl l), some (.inl h)], [.inl (-12)], (I, J, R)) _ from ?_)
          refine dn_ret0 rfl rfl rfl rfl ?_
          rw [show opTight S (nI j) l h = (-12, S) by unfold opTight; rw [if_pos hk, hcl, if_neg hs, if_neg (fun q => c5 q.1)]] at hQ
          have := hQ (I 6 0) hP mOth.rfl' ⟨fun _ => ⟨rfl, rfl⟩, fun q => absurd (show ((-12) : Int32) < 0 by decide) q⟩
          rw [tk_so_id] at this
          exact this
  · show tkDn tm_137 (14, [some (.inr (.inr (6, 0, 0))), some (.inl k), some (.inl l), some (.inl h)], [], (I, J, R)) _
    refine dn_run 1 (show tkDn tm_137 (16, [some (.inr (.inr (6, 0, 0))), some (.inl k), some (.inl l), some (.inl h)], [.inl (-11)], (I, J, R)) _ from ?_)
    refine dn_ret0 rfl rfl rfl rfl ?_
    rw [show opTight S k l h = (-11, S) by unfold opTight; rw [if_neg (fun q => by rw [if_pos (hiff.mpr q)] at c1; exact absurd c1 (by decide))]] at hQ
    have := hQ (I 6 0) hP mOth.rfl' ⟨fun _ => ⟨rfl, rfl⟩, fun q => absurd (show ((-11) : Int32) < 0 by decide) q⟩
    rw [tk_so_id] at this
    exact this
theorem sm_link {I : tkI} {J : tkJ} {R : Nat → Nat} {Q : tkQ} {S : tkS} (hP : NetP (I 6 0) S) (w : WF S) {k z : Int32} (hQ : Q (some (.inl (lnkF S k z))) (I, J, R)) : tkDn tm_138 (0, [some (.inr (.inr (6, 0, 0))), some (.inl k), some (.inl z)], [], (I, J, R)) Q := by
  have hL60 := w.2.1
  have hL := hP.l
  have hiff : (0 ≤ k ∧ k ≤ I 6 0 0 1 - 1) ↔ (0 ≤ k ∧ k < nI (sL S)) := by rw [hL, le_pred (by omega)]
  refine dn_run 6 (show tkDn tm_138 (8, [some (.inr (.inr (6, 0, 0))), some (.inl k), some (.inl z)], [.inl ((I 6 0 0 1) - 1), .inl 0, .inl k], (I, J, R)) _ from ?_)
  refine dn_call rfl rfl rfl rfl rfl (sm_in ?_)
  show tkDn tm_138 (11, [some (.inr (.inr (6, 0, 0))), some (.inl k), some (.inl z)], [.inl (if 0 ≤ k ∧ k ≤ I 6 0 0 1 - 1 then 1 else 0)], (I, J, R)) _
  refine dn_if rfl rfl rfl (fun (c1 : ¬ (if 0 ≤ k ∧ k ≤ I 6 0 0 1 - 1 then 1 else 0) = 0) => ?_) (fun (c1 : (if 0 ≤ k ∧ k ≤ I 6 0 0 1 - 1 then 1 else 0) = 0) => ?_)
  · show tkDn tm_138 (17, [some (.inr (.inr (6, 0, 0))), some (.inl k), some (.inl z)], [], (I, J, R)) _
    have hk : 0 ≤ k ∧ k < nI (sL S) := by by_cases q : 0 ≤ k ∧ k ≤ I 6 0 0 1 - 1; exact hiff.mp q; exact absurd (if_neg q) c1
    clear c1 hiff
    obtain ⟨j, hj, rfl⟩ := hasL_nat hL60 hk
    have hcl : (nI j).toNatClampNeg = j := nI_clamp (by omega)
    unfold lnkF at hQ
    rw [if_pos hk, hcl] at hQ
    refine dn_run 1 (show tkDn tm_138 (18, [some (.inr (.inr (6, 0, 0))), some (.inl (nI j)), some (.inl z)], [.inl z], (I, J, R)) _ from ?_)
    by_cases k0 : z = 0
    · subst k0
      refine dn_sw (t := 52) rfl (by decide) (by decide) ?_
      show tkDn tm_138 (52, [some (.inr (.inr (6, 0, 0))), some (.inl (nI j)), some (.inl 0)], [], (I, J, R)) _
      have e := hP.fr w hj
      refine dn_run 4 (show (vp_in (nI j) 60) ∧ tkDn tm_138 (58, [some (.inr (.inr (6, 0, 0))), some (.inl (nI j)), some (.inl 0)], [.inl (I 6 0 4 ((nI j).toNatClampNeg))], (I, J, R)) _ from ⟨vp_in_nI (by omega) (by omega), ?_⟩)
      rw [e]
      refine dn_ret0 rfl rfl rfl rfl ?_
      rw [if_pos rfl] at hQ
      exact hQ
    by_cases k1 : z = 1
    · subst k1
      refine dn_sw (t := 59) rfl (by decide) (by decide) ?_
      show tkDn tm_138 (59, [some (.inr (.inr (6, 0, 0))), some (.inl (nI j)), some (.inl 1)], [], (I, J, R)) _
      have e := hP.en w hj
      refine dn_run 4 (show (vp_in (nI j) 60) ∧ tkDn tm_138 (65, [some (.inr (.inr (6, 0, 0))), some (.inl (nI j)), some (.inl 1)], [.inl (I 6 0 5 ((nI j).toNatClampNeg))], (I, J, R)) _ from ⟨vp_in_nI (by omega) (by omega), ?_⟩)
      rw [e]
      refine dn_ret0 rfl rfl rfl rfl ?_
      rw [if_neg (by decide)] at hQ
      rw [if_pos rfl] at hQ
      exact hQ
    by_cases k2 : z = 2
    · subst k2
      refine dn_sw (t := 66) rfl (by decide) (by decide) ?_
      show tkDn tm_138 (66, [some (.inr (.inr (6, 0, 0))), some (.inl (nI j)), some (.inl 2)], [], (I, J, R)) _
      have e := hP.lo w hj
      refine dn_run 4 (show (vp_in (nI j) 60) ∧ tkDn tm_138 (72, [some (.inr (.inr (6, 0, 0))), some (.inl (nI j)), some (.inl 2)], [.inl (I 6 0 6 ((nI j).toNatClampNeg))], (I, J, R)) _ from ⟨vp_in_nI (by omega) (by omega), ?_⟩)
      rw [e]
      refine dn_ret0 rfl rfl rfl rfl ?_
      rw [if_neg (by decide)] at hQ
      rw [if_neg (by decide)] at hQ
      rw [if_pos rfl] at hQ
      exact hQ
    by_cases k3 : z = 3
    · subst k3
      refine dn_sw (t := 73) rfl (by decide) (by decide) ?_
      show tkDn tm_138 (73, [some (.inr (.inr (6, 0, 0))), some (.inl (nI j)), some (.inl 3)], [], (I, J, R)) _
      have e := hP.hi w hj
      refine dn_run 4 (show (vp_in (nI j) 60) ∧ tkDn tm_138 (79, [some (.inr (.inr (6, 0, 0))), some (.inl (nI j)), some (.inl 3)], [.inl (I 6 0 7 ((nI j).toNatClampNeg))], (I, J, R)) _ from ⟨vp_in_nI (by omega) (by omega), ?_⟩)
      rw [e]
      refine dn_ret0 rfl rfl rfl rfl ?_
      rw [if_neg (by decide)] at hQ
      rw [if_neg (by decide)] at hQ
      rw [if_neg (by decide)] at hQ
      rw [if_pos rfl] at hQ
      exact hQ
    by_cases k4 : z = 4
    · subst k4
      refine dn_sw (t := 80) rfl (by decide) (by decide) ?_
      show tkDn tm_138 (80, [some (.inr (.inr (6, 0, 0))), some (.inl (nI j)), some (.inl 4)], [], (I, J, R)) _
      have e := hP.gn w hj
      refine dn_run 4 (show (vp_in (nI j) 60) ∧ tkDn tm_138 (86, [some (.inr (.inr (6, 0, 0))), some (.inl (nI j)), some (.inl 4)], [.inl (I 6 0 8 ((nI j).toNatClampNeg))], (I, J, R)) _ from ⟨vp_in_nI (by omega) (by omega), ?_⟩)
      rw [e]
      refine dn_ret0 rfl rfl rfl rfl ?_
      rw [if_neg (by decide)] at hQ
      rw [if_neg (by decide)] at hQ
      rw [if_neg (by decide)] at hQ
      rw [if_neg (by decide)] at hQ
      rw [if_pos rfl] at hQ
      exact hQ
    refine dn_sw (t := 87) rfl (by decide) (by rw [sw_out (by have := lv_neT k0 (show (0 : Int32).toInt = 0 by decide); have := lv_neT k1 (show (1 : Int32).toInt = 1 by decide); have := lv_neT k2 (show (2 : Int32).toInt = 2 by decide); have := lv_neT k3 (show (3 : Int32).toInt = 3 by decide); have := lv_neT k4 (show (4 : Int32).toInt = 4 by decide); omega)]; rfl) ?_
    show tkDn tm_138 (87, [some (.inr (.inr (6, 0, 0))), some (.inl (nI j)), some (.inl z)], [], (I, J, R)) _
    refine dn_run 1 (show tkDn tm_138 (89, [some (.inr (.inr (6, 0, 0))), some (.inl (nI j)), some (.inl z)], [.inl (-12)], (I, J, R)) _ from ?_)
    refine dn_ret0 rfl rfl rfl rfl ?_
    rw [if_neg k0, if_neg k1, if_neg k2, if_neg k3, if_neg k4] at hQ
    exact hQ
  · show tkDn tm_138 (14, [some (.inr (.inr (6, 0, 0))), some (.inl k), some (.inl z)], [], (I, J, R)) _
    refine dn_run 1 (show tkDn tm_138 (16, [some (.inr (.inr (6, 0, 0))), some (.inl k), some (.inl z)], [.inl (-11)], (I, J, R)) _ from ?_)
    refine dn_ret0 rfl rfl rfl rfl ?_
    unfold lnkF at hQ
    rw [if_neg (fun q => by rw [if_pos (hiff.mpr q)] at c1; exact absurd c1 (by decide))] at hQ
    exact hQ
end
section
/-! tables of steps, as numbers by two places -/
abbrev tkD : Type := Nat → Nat → Int64
def upM (d : tkD) (a b : Nat) (x : Int64) : tkD := fun i j => if i = a ∧ j = b then x else d i j
def lowM (d : tkD) (a b : Nat) (x : Int64) : tkD := if x < d a b then upM d a b x else d
def low1 (r : Nat → Int64) (c : Nat) (x : Int64) : Nat → Int64 := if x < r c then tk_u1 r c x else r
def RowP (n : Nat) (r : Nat → Int64) (d : tkD) : Prop := ∀ a b, a < n → b < n → r (16 * a + b) = d a b
def fillR {α : Type} (r : Nat → α) (i : Nat) (x : α) : Nat → α := fun j => if j < i then x else r j
def d0M : tkD := fun a b => if a = b then 0 else 4611686018427387904
theorem fillR_s {α : Type} {r : Nat → α} {i : Nat} {x : α} : tk_u1 (fillR r i x) i x = fillR r (i + 1) x := by
  funext j
  unfold tk_u1 fillR
  by_cases h : j = i
  · subst h; rw [if_pos rfl, if_pos (by omega)]
  · rw [if_neg h]
    by_cases h2 : j < i
    · rw [if_pos h2, if_pos (by omega)]
    · rw [if_neg h2, if_neg (by omega)]
theorem fillR_0 {α : Type} {r : Nat → α} {x : α} : fillR r 0 x = r := by
  funext j
  unfold fillR
  rw [if_neg (by omega)]
theorem tk_u1_id {α : Type} {f : Nat → α} {k : Nat} : tk_u1 f k (f k) = f := by
  funext j
  by_cases h : j = k
  · subst h; rw [tk_u1_same]
  · rw [tk_u1_ne h]
theorem tk_u2_u1 {α : Type} {N : Nat → Nat → α} {s k : Nat} {r : Nat → α} {x : α} : tk_u2 (tk_u1 N s r) s k x = tk_u1 N s (tk_u1 r k x) := by
  funext j
  by_cases h : j = s
  · subst h; rw [tk_u2_at, tk_u1_same, tk_u1_same]
  · rw [tk_u2_ne h, tk_u1_ne h, tk_u1_ne h]
theorem tk_u1_u1 {α : Type} {N : Nat → α} {s : Nat} {r r' : α} : tk_u1 (tk_u1 N s r) s r' = tk_u1 N s r' := by
  funext j
  by_cases h : j = s
  · subst h; rw [tk_u1_same, tk_u1_same]
  · rw [tk_u1_ne h, tk_u1_ne h, tk_u1_ne h]
theorem RowP.put {n : Nat} {r : Nat → Int64} {d : tkD} (h : RowP n r d) (hn : n ≤ 16) {a b : Nat} (hb : b < 16) {x : Int64} : RowP n (tk_u1 r (16 * a + b) x) (upM d a b x) := by
  intro i j hi hj
  unfold upM
  by_cases e : i = a ∧ j = b
  · obtain ⟨rfl, rfl⟩ := e
    rw [tk_u1_same, if_pos ⟨rfl, rfl⟩]
  · rw [tk_u1_ne (by omega), if_neg e]
    exact h i j hi hj
theorem RowP.low {n : Nat} {r : Nat → Int64} {d : tkD} (h : RowP n r d) (hn : n ≤ 16) {a b : Nat} (ha : a < n) (hb : b < n) {x : Int64} : RowP n (low1 r (16 * a + b) x) (lowM d a b x) := by
  unfold low1 lowM
  rw [h a b ha hb]
  split
  · exact h.put hn (by omega)
  · exact h
theorem RowP.mono {n m : Nat} {r : Nat → Int64} {d : tkD} (h : RowP n r d) (hm : m ≤ n) : RowP m r d := fun a b ha hb => h a b (by omega) (by omega)
theorem ix16 {a b : Nat} : nI a * 16 + nI b = nI (16 * a + b) := by
  rw [show (16 : Int32) = nI 16 from rfl, pk_mul, nI_add, Nat.mul_comm]
theorem ix16' {a b : Nat} : 16 * nI a + nI b = nI (16 * a + b) := by
  rw [show (16 : Int32) = nI 16 from rfl, pk_mul, nI_add]
theorem ix17 {a : Nat} : 17 * nI a = nI (16 * a + a) := by
  rw [show (17 : Int32) = nI 17 from rfl, pk_mul]
  congr 1
  omega
theorem RowP.at {n : Nat} {r : Nat → Int64} {d : tkD} (h : RowP n r d) (hn : n ≤ 16) {a b : Nat} (ha : a < n) (hb : b < n) : r (nI (16 * a + b)).toNatClampNeg = d a b := by
  rw [nI_clamp (by omega)]
  exact h a b ha hb
/-- the lows and highs of the first l links -/
def linkM (S : tkS) : Nat → tkD
  | 0 => d0M
  | l + 1 => lowM (lowM (linkM S l) (sf S l) (se S l) (shi S l).toInt64) (se S l) (sf S l) (-(slo S l).toInt64)
def negF (d : tkD) : Nat → Nat → Bool
  | 0, _ => false
  | k + 1, m => if d m m < 0 then true else negF d k (m + 1)
def rvM (d : tkD) (a k : Nat) (F : Int64) : Nat → tkD
  | 0 => d
  | b + 1 => if F ≠ 4611686018427387904 ∧ rvM d a k F b k b ≠ 4611686018427387904 ∧ F + rvM d a k F b k b < rvM d a k F b a b then upM (rvM d a k F b) a b (F + rvM d a k F b k b) else rvM d a k F b
def viM (d : tkD) (k n : Nat) : Nat → tkD
  | 0 => d
  | a + 1 => rvM (viM d k n a) a k (viM d k n a a k) n
/-- the closing of the class: m tables more from via on -/
def clL (n : Nat) : Nat → Nat → tkD → Bool × tkD
  | 0, _, d => (true, d)
  | m + 1, via, d => if negF (viM d via n n) n 0 = true then (false, viM d via n n) else clL n m (via + 1) (viM d via n n)
def clF (d : tkD) (n : Nat) : Bool × tkD := if negF d n 0 = true then (false, d) else clL n n 0 d
theorem jr_same {α : Type} {J : Nat → Nat → α} {N : α} {ci : Nat} : tk_so (tk_so J ci 0 N) ci 0 = tk_so J ci 0 := by funext N'; exact tk_so_so
theorem jr_id {α : Type} {J : Nat → Nat → Nat → α} {ci s : Nat} : tk_so J ci 0 (tk_u1 (J ci 0) s (J ci 0 s)) = J := by rw [tk_u1_id, tk_so_id]
end
section
/-! Steps: tables of steps, at each place where they are used -/
theorem ss_cell {I : tkI} {J : tkJ} {R : Nat → Nat} {Q : tkQ} {a c : Nat} (hQ : Q (some (.inl (nI (16 * a + c)))) (I, J, R)) : tkDn tm_61 (0, [some (.inl (nI a)), some (.inl (nI c))], [], (I, J, R)) Q := by
  refine dn_run 5 (show tkDn tm_61 (6, [some (.inl (nI a)), some (.inl (nI c))], [.inl (((nI a) * 16) + (nI c))], (I, J, R)) _ from ?_)
  rw [ix16]
  refine dn_ret0 rfl rfl rfl rfl ?_
  exact hQ
theorem ss_fill_0_1_loop {I : tkI} {J : tkJ} {R : Nat → Nat} {Q : tkQ} {x : Int64} (hQ : Q none (I, tk_so J 0 0 (tk_u1 (J 0 0) 1 (fillR (J 0 0 1) 256 x)), R)) : ∀ n i, i + n = 256 → tkDn tm_191 (6, [some (.inr (.inr (0, 0, 1))), some (.inr (.inl x)), none, some (.inl (nI i)), some (.inl 256)], [], (I, tk_so J 0 0 (tk_u1 (J 0 0) 1 (fillR (J 0 0 1) i x)), R)) Q := by
  intro n
  induction n with
  | zero =>
    intro i hi
    have hi : i = 256 := by omega
    subst hi
    show tkDn tm_191 (6, [some (.inr (.inr (0, 0, 1))), some (.inr (.inl x)), none, some (.inl (nI 256)), some (.inl 256)], [], (I, tk_so J 0 0 (tk_u1 (J 0 0) 1 (fillR (J 0 0 1) 256 x)), R)) _
    refine dn_run 2 (show tkDn tm_191 (9, [some (.inr (.inr (0, 0, 1))), some (.inr (.inl x)), none, some (.inl (nI 256)), some (.inl 256)], [.inl 256, .inl (nI 256)], (I, tk_so J 0 0 (tk_u1 (J 0 0) 1 (fillR (J 0 0 1) 256 x)), R)) _ from ?_)
    refine dn_if rfl rfl rfl (fun (c : 256 ≤ (nI 256)) => ?_) (fun (c : ¬ 256 ≤ (nI 256)) => ?_)
    · show tkDn tm_191 (22, [some (.inr (.inr (0, 0, 1))), some (.inr (.inl x)), none, some (.inl (nI 256)), some (.inl 256)], [], (I, tk_so J 0 0 (tk_u1 (J 0 0) 1 (fillR (J 0 0 1) 256 x)), R)) _
      refine dn_ret0 rfl rfl rfl rfl ?_
      exact hQ
    · exact absurd (by decide) c
  | succ n ih =>
    intro i hi
    show tkDn tm_191 (6, [some (.inr (.inr (0, 0, 1))), some (.inr (.inl x)), none, some (.inl (nI i)), some (.inl 256)], [], (I, tk_so J 0 0 (tk_u1 (J 0 0) 1 (fillR (J 0 0 1) i x)), R)) _
    refine dn_run 2 (show tkDn tm_191 (9, [some (.inr (.inr (0, 0, 1))), some (.inr (.inl x)), none, some (.inl (nI i)), some (.inl 256)], [.inl 256, .inl (nI i)], (I, tk_so J 0 0 (tk_u1 (J 0 0) 1 (fillR (J 0 0 1) i x)), R)) _ from ?_)
    refine dn_if rfl rfl rfl (fun (c : 256 ≤ (nI i)) => ?_) (fun (c : ¬ 256 ≤ (nI i)) => ?_)
    · exact absurd c (nI_ge (b := 256) (by omega) (by omega))
    · show tkDn tm_191 (12, [some (.inr (.inr (0, 0, 1))), some (.inr (.inl x)), none, some (.inl (nI i)), some (.inl 256)], [], (I, tk_so J 0 0 (tk_u1 (J 0 0) 1 (fillR (J 0 0 1) i x)), R)) _
      refine dn_run 6 (show (vp_in (nI i) 256) ∧ tkDn tm_191 (6, [some (.inr (.inr (0, 0, 1))), some (.inr (.inl x)), none, some (.inl ((nI i) + 1)), some (.inl 256)], [], (I, tk_so (tk_so J 0 0 (tk_u1 (J 0 0) 1 (fillR (J 0 0 1) i x))) 0 0 (tk_u2 (tk_u1 (J 0 0) 1 (fillR (J 0 0 1) i x)) 1 ((nI i).toNatClampNeg) x), R)) _ from ⟨vp_in_nI (by omega) (by omega), ?_⟩)
      rw [tk_so_so]
      rw [tk_u2_u1, nI_clamp (by omega), fillR_s, nI_1]
      exact ih (i + 1) (by omega)
theorem ss_fill_0_1 {I : tkI} {J : tkJ} {R : Nat → Nat} {Q : tkQ} {x : Int64} (hQ : Q none (I, tk_so J 0 0 (tk_u1 (J 0 0) 1 (fillR (J 0 0 1) 256 x)), R)) : tkDn tm_191 (0, [some (.inr (.inr (0, 0, 1))), some (.inr (.inl x)), none, none, none], [], (I, J, R)) Q := by
  refine dn_run 5 (show tkDn tm_191 (6, [some (.inr (.inr (0, 0, 1))), some (.inr (.inl x)), none, some (.inl 0), some (.inl 256)], [], (I, J, R)) _ from ?_)
  have := ss_fill_0_1_loop hQ 256 0 rfl
  rw [fillR_0, jr_id] at this
  exact this
theorem ss_fill_4_1_loop {I : tkI} {J : tkJ} {R : Nat → Nat} {Q : tkQ} {x : Int64} (hQ : Q none (I, tk_so J 4 0 (tk_u1 (J 4 0) 1 (fillR (J 4 0 1) 256 x)), R)) : ∀ n i, i + n = 256 → tkDn tm_191 (6, [some (.inr (.inr (4, 0, 1))), some (.inr (.inl x)), none, some (.inl (nI i)), some (.inl 256)], [], (I, tk_so J 4 0 (tk_u1 (J 4 0) 1 (fillR (J 4 0 1) i x)), R)) Q := by
  intro n
  induction n with
  | zero =>
    intro i hi
    have hi : i = 256 := by omega
    subst hi
    show tkDn tm_191 (6, [some (.inr (.inr (4, 0, 1))), some (.inr (.inl x)), none, some (.inl (nI 256)), some (.inl 256)], [], (I, tk_so J 4 0 (tk_u1 (J 4 0) 1 (fillR (J 4 0 1) 256 x)), R)) _
    refine dn_run 2 (show tkDn tm_191 (9, [some (.inr (.inr (4, 0, 1))), some (.inr (.inl x)), none, some (.inl (nI 256)), some (.inl 256)], [.inl 256, .inl (nI 256)], (I, tk_so J 4 0 (tk_u1 (J 4 0) 1 (fillR (J 4 0 1) 256 x)), R)) _ from ?_)
    refine dn_if rfl rfl rfl (fun (c : 256 ≤ (nI 256)) => ?_) (fun (c : ¬ 256 ≤ (nI 256)) => ?_)
    · show tkDn tm_191 (22, [some (.inr (.inr (4, 0, 1))), some (.inr (.inl x)), none, some (.inl (nI 256)), some (.inl 256)], [], (I, tk_so J 4 0 (tk_u1 (J 4 0) 1 (fillR (J 4 0 1) 256 x)), R)) _
      refine dn_ret0 rfl rfl rfl rfl ?_
      exact hQ
    · exact absurd (by decide) c
  | succ n ih =>
    intro i hi
    show tkDn tm_191 (6, [some (.inr (.inr (4, 0, 1))), some (.inr (.inl x)), none, some (.inl (nI i)), some (.inl 256)], [], (I, tk_so J 4 0 (tk_u1 (J 4 0) 1 (fillR (J 4 0 1) i x)), R)) _
    refine dn_run 2 (show tkDn tm_191 (9, [some (.inr (.inr (4, 0, 1))), some (.inr (.inl x)), none, some (.inl (nI i)), some (.inl 256)], [.inl 256, .inl (nI i)], (I, tk_so J 4 0 (tk_u1 (J 4 0) 1 (fillR (J 4 0 1) i x)), R)) _ from ?_)
    refine dn_if rfl rfl rfl (fun (c : 256 ≤ (nI i)) => ?_) (fun (c : ¬ 256 ≤ (nI i)) => ?_)
    · exact absurd c (nI_ge (b := 256) (by omega) (by omega))
    · show tkDn tm_191 (12, [some (.inr (.inr (4, 0, 1))), some (.inr (.inl x)), none, some (.inl (nI i)), some (.inl 256)], [], (I, tk_so J 4 0 (tk_u1 (J 4 0) 1 (fillR (J 4 0 1) i x)), R)) _
      refine dn_run 6 (show (vp_in (nI i) 256) ∧ tkDn tm_191 (6, [some (.inr (.inr (4, 0, 1))), some (.inr (.inl x)), none, some (.inl ((nI i) + 1)), some (.inl 256)], [], (I, tk_so (tk_so J 4 0 (tk_u1 (J 4 0) 1 (fillR (J 4 0 1) i x))) 4 0 (tk_u2 (tk_u1 (J 4 0) 1 (fillR (J 4 0 1) i x)) 1 ((nI i).toNatClampNeg) x), R)) _ from ⟨vp_in_nI (by omega) (by omega), ?_⟩)
      rw [tk_so_so]
      rw [tk_u2_u1, nI_clamp (by omega), fillR_s, nI_1]
      exact ih (i + 1) (by omega)
theorem ss_fill_4_1 {I : tkI} {J : tkJ} {R : Nat → Nat} {Q : tkQ} {x : Int64} (hQ : Q none (I, tk_so J 4 0 (tk_u1 (J 4 0) 1 (fillR (J 4 0 1) 256 x)), R)) : tkDn tm_191 (0, [some (.inr (.inr (4, 0, 1))), some (.inr (.inl x)), none, none, none], [], (I, J, R)) Q := by
  refine dn_run 5 (show tkDn tm_191 (6, [some (.inr (.inr (4, 0, 1))), some (.inr (.inl x)), none, some (.inl 0), some (.inl 256)], [], (I, J, R)) _ from ?_)
  have := ss_fill_4_1_loop hQ 256 0 rfl
  rw [fillR_0, jr_id] at this
  exact this
theorem ss_fill_4_4_loop {I : tkI} {J : tkJ} {R : Nat → Nat} {Q : tkQ} {x : Int64} (hQ : Q none (I, tk_so J 4 0 (tk_u1 (J 4 0) 4 (fillR (J 4 0 4) 96 x)), R)) : ∀ n i, i + n = 96 → tkDn tm_191 (6, [some (.inr (.inr (4, 0, 4))), some (.inr (.inl x)), none, some (.inl (nI i)), some (.inl 96)], [], (I, tk_so J 4 0 (tk_u1 (J 4 0) 4 (fillR (J 4 0 4) i x)), R)) Q := by
  intro n
  induction n with
  | zero =>
    intro i hi
    have hi : i = 96 := by omega
    subst hi
    show tkDn tm_191 (6, [some (.inr (.inr (4, 0, 4))), some (.inr (.inl x)), none, some (.inl (nI 96)), some (.inl 96)], [], (I, tk_so J 4 0 (tk_u1 (J 4 0) 4 (fillR (J 4 0 4) 96 x)), R)) _
    refine dn_run 2 (show tkDn tm_191 (9, [some (.inr (.inr (4, 0, 4))), some (.inr (.inl x)), none, some (.inl (nI 96)), some (.inl 96)], [.inl 96, .inl (nI 96)], (I, tk_so J 4 0 (tk_u1 (J 4 0) 4 (fillR (J 4 0 4) 96 x)), R)) _ from ?_)
    refine dn_if rfl rfl rfl (fun (c : 96 ≤ (nI 96)) => ?_) (fun (c : ¬ 96 ≤ (nI 96)) => ?_)
    · show tkDn tm_191 (22, [some (.inr (.inr (4, 0, 4))), some (.inr (.inl x)), none, some (.inl (nI 96)), some (.inl 96)], [], (I, tk_so J 4 0 (tk_u1 (J 4 0) 4 (fillR (J 4 0 4) 96 x)), R)) _
      refine dn_ret0 rfl rfl rfl rfl ?_
      exact hQ
    · exact absurd (by decide) c
  | succ n ih =>
    intro i hi
    show tkDn tm_191 (6, [some (.inr (.inr (4, 0, 4))), some (.inr (.inl x)), none, some (.inl (nI i)), some (.inl 96)], [], (I, tk_so J 4 0 (tk_u1 (J 4 0) 4 (fillR (J 4 0 4) i x)), R)) _
    refine dn_run 2 (show tkDn tm_191 (9, [some (.inr (.inr (4, 0, 4))), some (.inr (.inl x)), none, some (.inl (nI i)), some (.inl 96)], [.inl 96, .inl (nI i)], (I, tk_so J 4 0 (tk_u1 (J 4 0) 4 (fillR (J 4 0 4) i x)), R)) _ from ?_)
    refine dn_if rfl rfl rfl (fun (c : 96 ≤ (nI i)) => ?_) (fun (c : ¬ 96 ≤ (nI i)) => ?_)
    · exact absurd c (nI_ge (b := 96) (by omega) (by omega))
    · show tkDn tm_191 (12, [some (.inr (.inr (4, 0, 4))), some (.inr (.inl x)), none, some (.inl (nI i)), some (.inl 96)], [], (I, tk_so J 4 0 (tk_u1 (J 4 0) 4 (fillR (J 4 0 4) i x)), R)) _
      refine dn_run 6 (show (vp_in (nI i) 96) ∧ tkDn tm_191 (6, [some (.inr (.inr (4, 0, 4))), some (.inr (.inl x)), none, some (.inl ((nI i) + 1)), some (.inl 96)], [], (I, tk_so (tk_so J 4 0 (tk_u1 (J 4 0) 4 (fillR (J 4 0 4) i x))) 4 0 (tk_u2 (tk_u1 (J 4 0) 4 (fillR (J 4 0 4) i x)) 4 ((nI i).toNatClampNeg) x), R)) _ from ⟨vp_in_nI (by omega) (by omega), ?_⟩)
      rw [tk_so_so]
      rw [tk_u2_u1, nI_clamp (by omega), fillR_s, nI_1]
      exact ih (i + 1) (by omega)
theorem ss_fill_4_4 {I : tkI} {J : tkJ} {R : Nat → Nat} {Q : tkQ} {x : Int64} (hQ : Q none (I, tk_so J 4 0 (tk_u1 (J 4 0) 4 (fillR (J 4 0 4) 96 x)), R)) : tkDn tm_191 (0, [some (.inr (.inr (4, 0, 4))), some (.inr (.inl x)), none, none, none], [], (I, J, R)) Q := by
  refine dn_run 5 (show tkDn tm_191 (6, [some (.inr (.inr (4, 0, 4))), some (.inr (.inl x)), none, some (.inl 0), some (.inl 96)], [], (I, J, R)) _ from ?_)
  have := ss_fill_4_4_loop hQ 96 0 rfl
  rw [fillR_0, jr_id] at this
  exact this
theorem diag_s {r : Nat → Int64} {m : Nat} (hm : m < 16) (h : ∀ a b, a < 16 → b < 16 → r (16 * a + b) = if a = b ∧ a < m then 0 else 4611686018427387904) : ∀ a b, a < 16 → b < 16 → tk_u1 r (16 * m + m) 0 (16 * a + b) = if a = b ∧ a < m + 1 then 0 else 4611686018427387904 := by
  intro a b ha hb
  by_cases e : a = m ∧ b = m
  · obtain ⟨rfl, rfl⟩ := e
    rw [tk_u1_same, if_pos ⟨rfl, by omega⟩]
  · rw [tk_u1_ne (by omega), h a b ha hb]
    by_cases e2 : a = b ∧ a < m
    · rw [if_pos e2, if_pos ⟨e2.1, by omega⟩]
    · rw [if_neg e2, if_neg (by omega)]
theorem ss_clear_0_1_loop {I : tkI} {J : tkJ} {R : Nat → Nat} {Q : tkQ} (hQ : ∀ r, RowP 16 r d0M → Q none (I, tk_so J 0 0 (tk_u1 (J 0 0) 1 r), R)) : ∀ n m r, m + n = 16 → (∀ a b, a < 16 → b < 16 → r (16 * a + b) = if a = b ∧ a < m then 0 else 4611686018427387904) → tkDn tm_62 (9, [some (.inr (.inr (0, 0, 1))), some (.inl (nI m))], [], (I, tk_so J 0 0 (tk_u1 (J 0 0) 1 r), R)) Q := by
  intro n
  induction n with
  | zero =>
    intro m r hm hr
    show tkDn tm_62 (9, [some (.inr (.inr (0, 0, 1))), some (.inl (nI m))], [], (I, tk_so J 0 0 (tk_u1 (J 0 0) 1 r), R)) _
    refine dn_run 2 (show tkDn tm_62 (12, [some (.inr (.inr (0, 0, 1))), some (.inl (nI m))], [.inl 16, .inl (nI m)], (I, tk_so J 0 0 (tk_u1 (J 0 0) 1 r), R)) _ from ?_)
    refine dn_if rfl rfl rfl (fun (c : 16 ≤ (nI m)) => ?_) (fun (c : ¬ 16 ≤ (nI m)) => ?_)
    · show tkDn tm_62 (29, [some (.inr (.inr (0, 0, 1))), some (.inl (nI m))], [], (I, tk_so J 0 0 (tk_u1 (J 0 0) 1 r), R)) _
      refine dn_ret0 rfl rfl rfl rfl ?_
      refine hQ r (fun a b ha hb => ?_)
      rw [hr a b ha hb]
      unfold d0M
      by_cases e : a = b
      · rw [if_pos ⟨e, by omega⟩, if_pos e]
      · rw [if_neg (fun q => e q.1), if_neg e]
    · exact absurd (by rw [show m = 16 by omega]; decide) c
  | succ n ih =>
    intro m r hm hr
    show tkDn tm_62 (9, [some (.inr (.inr (0, 0, 1))), some (.inl (nI m))], [], (I, tk_so J 0 0 (tk_u1 (J 0 0) 1 r), R)) _
    refine dn_run 2 (show tkDn tm_62 (12, [some (.inr (.inr (0, 0, 1))), some (.inl (nI m))], [.inl 16, .inl (nI m)], (I, tk_so J 0 0 (tk_u1 (J 0 0) 1 r), R)) _ from ?_)
    refine dn_if rfl rfl rfl (fun (c : 16 ≤ (nI m)) => ?_) (fun (c : ¬ 16 ≤ (nI m)) => ?_)
    · exact absurd c (nI_ge (b := 16) (by omega) (by omega))
    · show tkDn tm_62 (15, [some (.inr (.inr (0, 0, 1))), some (.inl (nI m))], [], (I, tk_so J 0 0 (tk_u1 (J 0 0) 1 r), R)) _
      refine dn_run 3 (show tkDn tm_62 (18, [some (.inr (.inr (0, 0, 1))), some (.inl (nI m))], [.inl (nI m), .inl (nI m), .inr (.inr (0, 0, 1))], (I, tk_so J 0 0 (tk_u1 (J 0 0) 1 r), R)) _ from ?_)
      refine dn_call rfl rfl rfl rfl rfl (ss_cell ?_)
      show tkDn tm_62 (21, [some (.inr (.inr (0, 0, 1))), some (.inl (nI m))], [.inl (nI (16 * m + m)), .inr (.inr (0, 0, 1))], (I, tk_so J 0 0 (tk_u1 (J 0 0) 1 r), R)) _
      refine dn_run 4 (show (vp_in (nI (16 * m + m)) 256) ∧ tkDn tm_62 (9, [some (.inr (.inr (0, 0, 1))), some (.inl ((nI m) + 1))], [], (I, tk_so (tk_so J 0 0 (tk_u1 (J 0 0) 1 r)) 0 0 (tk_u2 (tk_u1 (J 0 0) 1 r) 1 ((nI (16 * m + m)).toNatClampNeg) 0), R)) _ from ⟨vp_in_nI (by omega) (by omega), ?_⟩)
      rw [tk_so_so]
      rw [tk_u2_u1, nI_clamp (by omega), nI_1]
      exact ih (m + 1) _ (by omega) (diag_s (by omega) hr)
theorem ss_clear_0_1 {I : tkI} {J : tkJ} {R : Nat → Nat} {Q : tkQ} (hQ : ∀ r, RowP 16 r d0M → Q none (I, tk_so J 0 0 (tk_u1 (J 0 0) 1 r), R)) : tkDn tm_62 (0, [some (.inr (.inr (0, 0, 1))), none], [], (I, J, R)) Q := by
  refine dn_run 2 (show tkDn tm_62 (4, [some (.inr (.inr (0, 0, 1))), none], [.inr (.inl 4611686018427387904), .inr (.inr (0, 0, 1))], (I, J, R)) _ from ?_)
  refine dn_call rfl rfl rfl rfl rfl (ss_fill_0_1 ?_)
  show tkDn tm_62 (7, [some (.inr (.inr (0, 0, 1))), none], [], (I, tk_so J 0 0 (tk_u1 (J 0 0) 1 (fillR (J 0 0 1) 256 4611686018427387904)), R)) _
  refine dn_run 2 (show tkDn tm_62 (9, [some (.inr (.inr (0, 0, 1))), some (.inl 0)], [], (I, tk_so J 0 0 (tk_u1 (J 0 0) 1 (fillR (J 0 0 1) 256 4611686018427387904)), R)) _ from ?_)
  refine ss_clear_0_1_loop hQ 16 0 _ rfl (fun a b ha hb => ?_)
  unfold fillR
  rw [if_pos (by omega), if_neg (by omega)]
theorem ss_clear_4_1_loop {I : tkI} {J : tkJ} {R : Nat → Nat} {Q : tkQ} (hQ : ∀ r, RowP 16 r d0M → Q none (I, tk_so J 4 0 (tk_u1 (J 4 0) 1 r), R)) : ∀ n m r, m + n = 16 → (∀ a b, a < 16 → b < 16 → r (16 * a + b) = if a = b ∧ a < m then 0 else 4611686018427387904) → tkDn tm_62 (9, [some (.inr (.inr (4, 0, 1))), some (.inl (nI m))], [], (I, tk_so J 4 0 (tk_u1 (J 4 0) 1 r), R)) Q := by
  intro n
  induction n with
  | zero =>
    intro m r hm hr
    show tkDn tm_62 (9, [some (.inr (.inr (4, 0, 1))), some (.inl (nI m))], [], (I, tk_so J 4 0 (tk_u1 (J 4 0) 1 r), R)) _
    refine dn_run 2 (show tkDn tm_62 (12, [some (.inr (.inr (4, 0, 1))), some (.inl (nI m))], [.inl 16, .inl (nI m)], (I, tk_so J 4 0 (tk_u1 (J 4 0) 1 r), R)) _ from ?_)
    refine dn_if rfl rfl rfl (fun (c : 16 ≤ (nI m)) => ?_) (fun (c : ¬ 16 ≤ (nI m)) => ?_)
    · show tkDn tm_62 (29, [some (.inr (.inr (4, 0, 1))), some (.inl (nI m))], [], (I, tk_so J 4 0 (tk_u1 (J 4 0) 1 r), R)) _
      refine dn_ret0 rfl rfl rfl rfl ?_
      refine hQ r (fun a b ha hb => ?_)
      rw [hr a b ha hb]
      unfold d0M
      by_cases e : a = b
      · rw [if_pos ⟨e, by omega⟩, if_pos e]
      · rw [if_neg (fun q => e q.1), if_neg e]
    · exact absurd (by rw [show m = 16 by omega]; decide) c
  | succ n ih =>
    intro m r hm hr
    show tkDn tm_62 (9, [some (.inr (.inr (4, 0, 1))), some (.inl (nI m))], [], (I, tk_so J 4 0 (tk_u1 (J 4 0) 1 r), R)) _
    refine dn_run 2 (show tkDn tm_62 (12, [some (.inr (.inr (4, 0, 1))), some (.inl (nI m))], [.inl 16, .inl (nI m)], (I, tk_so J 4 0 (tk_u1 (J 4 0) 1 r), R)) _ from ?_)
    refine dn_if rfl rfl rfl (fun (c : 16 ≤ (nI m)) => ?_) (fun (c : ¬ 16 ≤ (nI m)) => ?_)
    · exact absurd c (nI_ge (b := 16) (by omega) (by omega))
    · show tkDn tm_62 (15, [some (.inr (.inr (4, 0, 1))), some (.inl (nI m))], [], (I, tk_so J 4 0 (tk_u1 (J 4 0) 1 r), R)) _
      refine dn_run 3 (show tkDn tm_62 (18, [some (.inr (.inr (4, 0, 1))), some (.inl (nI m))], [.inl (nI m), .inl (nI m), .inr (.inr (4, 0, 1))], (I, tk_so J 4 0 (tk_u1 (J 4 0) 1 r), R)) _ from ?_)
      refine dn_call rfl rfl rfl rfl rfl (ss_cell ?_)
      show tkDn tm_62 (21, [some (.inr (.inr (4, 0, 1))), some (.inl (nI m))], [.inl (nI (16 * m + m)), .inr (.inr (4, 0, 1))], (I, tk_so J 4 0 (tk_u1 (J 4 0) 1 r), R)) _
      refine dn_run 4 (show (vp_in (nI (16 * m + m)) 256) ∧ tkDn tm_62 (9, [some (.inr (.inr (4, 0, 1))), some (.inl ((nI m) + 1))], [], (I, tk_so (tk_so J 4 0 (tk_u1 (J 4 0) 1 r)) 4 0 (tk_u2 (tk_u1 (J 4 0) 1 r) 1 ((nI (16 * m + m)).toNatClampNeg) 0), R)) _ from ⟨vp_in_nI (by omega) (by omega), ?_⟩)
      rw [tk_so_so]
      rw [tk_u2_u1, nI_clamp (by omega), nI_1]
      exact ih (m + 1) _ (by omega) (diag_s (by omega) hr)
theorem ss_clear_4_1 {I : tkI} {J : tkJ} {R : Nat → Nat} {Q : tkQ} (hQ : ∀ r, RowP 16 r d0M → Q none (I, tk_so J 4 0 (tk_u1 (J 4 0) 1 r), R)) : tkDn tm_62 (0, [some (.inr (.inr (4, 0, 1))), none], [], (I, J, R)) Q := by
  refine dn_run 2 (show tkDn tm_62 (4, [some (.inr (.inr (4, 0, 1))), none], [.inr (.inl 4611686018427387904), .inr (.inr (4, 0, 1))], (I, J, R)) _ from ?_)
  refine dn_call rfl rfl rfl rfl rfl (ss_fill_4_1 ?_)
  show tkDn tm_62 (7, [some (.inr (.inr (4, 0, 1))), none], [], (I, tk_so J 4 0 (tk_u1 (J 4 0) 1 (fillR (J 4 0 1) 256 4611686018427387904)), R)) _
  refine dn_run 2 (show tkDn tm_62 (9, [some (.inr (.inr (4, 0, 1))), some (.inl 0)], [], (I, tk_so J 4 0 (tk_u1 (J 4 0) 1 (fillR (J 4 0 1) 256 4611686018427387904)), R)) _ from ?_)
  refine ss_clear_4_1_loop hQ 16 0 _ rfl (fun a b ha hb => ?_)
  unfold fillR
  rw [if_pos (by omega), if_neg (by omega)]
theorem ss_lower_0_1 {I : tkI} {J : tkJ} {R : Nat → Nat} {Q : tkQ} {a c : Nat} {y : Int64} (ha : a < 16) (hc : c < 16) (hQ : Q none (I, tk_so J 0 0 (tk_u1 (J 0 0) 1 (low1 (J 0 0 1) (16 * a + c) y)), R)) : tkDn tm_63 (0, [some (.inr (.inr (0, 0, 1))), some (.inl (nI a)), some (.inl (nI c)), some (.inr (.inl y)), none, none], [], (I, J, R)) Q := by
  refine dn_run 6 (show tkDn tm_63 (8, [some (.inr (.inr (0, 0, 1))), some (.inl (nI a)), some (.inl (nI c)), some (.inr (.inl y)), none, some (.inl (((nI a) * 16) + (nI c)))], [], (I, J, R)) _ from ?_)
  rw [ix16]
  show tkDn tm_63 (8, [some (.inr (.inr (0, 0, 1))), some (.inl (nI a)), some (.inl (nI c)), some (.inr (.inl y)), none, some (.inl (nI (16 * a + c)))], [], (I, J, R)) _
  refine dn_run 5 (show (vp_in (nI (16 * a + c)) 256) ∧ tkDn tm_63 (14, [some (.inr (.inr (0, 0, 1))), some (.inl (nI a)), some (.inl (nI c)), some (.inr (.inl y)), none, some (.inl (nI (16 * a + c)))], [.inl (lg_cmp y (J 0 0 1 ((nI (16 * a + c)).toNatClampNeg)))], (I, J, R)) _ from ⟨vp_in_nI (by omega) (by omega), ?_⟩)
  rw [nI_clamp (show 16 * a + c < 2 ^ 31 by omega)]
  refine dn_if rfl rfl rfl (fun (q : 0 ≤ (lg_cmp y (J 0 0 1 (16 * a + c)))) => ?_) (fun (q : ¬ 0 ≤ (lg_cmp y (J 0 0 1 (16 * a + c)))) => ?_)
  · show tkDn tm_63 (22, [some (.inr (.inr (0, 0, 1))), some (.inl (nI a)), some (.inl (nI c)), some (.inr (.inl y)), none, some (.inl (nI (16 * a + c)))], [], (I, J, R)) _
    refine dn_ret0 rfl rfl rfl rfl ?_
    rw [show low1 (J 0 0 1) (16 * a + c) y = J 0 0 1 from if_neg (Int64.not_lt.mpr ((lg_cmp_ge _ _).mp q)), jr_id] at hQ
    exact hQ
  · show tkDn tm_63 (17, [some (.inr (.inr (0, 0, 1))), some (.inl (nI a)), some (.inl (nI c)), some (.inr (.inl y)), none, some (.inl (nI (16 * a + c)))], [], (I, J, R)) _
    refine dn_run 4 (show (vp_in (nI (16 * a + c)) 256) ∧ tkDn tm_63 (22, [some (.inr (.inr (0, 0, 1))), some (.inl (nI a)), some (.inl (nI c)), some (.inr (.inl y)), none, some (.inl (nI (16 * a + c)))], [], (I, tk_so J 0 0 (tk_u2 (J 0 0) 1 ((nI (16 * a + c)).toNatClampNeg) y), R)) _ from ⟨vp_in_nI (by omega) (by omega), ?_⟩)
    refine dn_ret0 rfl rfl rfl rfl ?_
    rw [show low1 (J 0 0 1) (16 * a + c) y = tk_u1 (J 0 0 1) (16 * a + c) y from if_pos (Int64.not_le.mp (fun t => q ((lg_cmp_ge _ _).mpr t)))] at hQ
    rw [nI_clamp (show 16 * a + c < 2 ^ 31 by omega)]
    exact hQ
theorem ss_lower_4_1 {I : tkI} {J : tkJ} {R : Nat → Nat} {Q : tkQ} {a c : Nat} {y : Int64} (ha : a < 16) (hc : c < 16) (hQ : Q none (I, tk_so J 4 0 (tk_u1 (J 4 0) 1 (low1 (J 4 0 1) (16 * a + c) y)), R)) : tkDn tm_63 (0, [some (.inr (.inr (4, 0, 1))), some (.inl (nI a)), some (.inl (nI c)), some (.inr (.inl y)), none, none], [], (I, J, R)) Q := by
  refine dn_run 6 (show tkDn tm_63 (8, [some (.inr (.inr (4, 0, 1))), some (.inl (nI a)), some (.inl (nI c)), some (.inr (.inl y)), none, some (.inl (((nI a) * 16) + (nI c)))], [], (I, J, R)) _ from ?_)
  rw [ix16]
  show tkDn tm_63 (8, [some (.inr (.inr (4, 0, 1))), some (.inl (nI a)), some (.inl (nI c)), some (.inr (.inl y)), none, some (.inl (nI (16 * a + c)))], [], (I, J, R)) _
  refine dn_run 5 (show (vp_in (nI (16 * a + c)) 256) ∧ tkDn tm_63 (14, [some (.inr (.inr (4, 0, 1))), some (.inl (nI a)), some (.inl (nI c)), some (.inr (.inl y)), none, some (.inl (nI (16 * a + c)))], [.inl (lg_cmp y (J 4 0 1 ((nI (16 * a + c)).toNatClampNeg)))], (I, J, R)) _ from ⟨vp_in_nI (by omega) (by omega), ?_⟩)
  rw [nI_clamp (show 16 * a + c < 2 ^ 31 by omega)]
  refine dn_if rfl rfl rfl (fun (q : 0 ≤ (lg_cmp y (J 4 0 1 (16 * a + c)))) => ?_) (fun (q : ¬ 0 ≤ (lg_cmp y (J 4 0 1 (16 * a + c)))) => ?_)
  · show tkDn tm_63 (22, [some (.inr (.inr (4, 0, 1))), some (.inl (nI a)), some (.inl (nI c)), some (.inr (.inl y)), none, some (.inl (nI (16 * a + c)))], [], (I, J, R)) _
    refine dn_ret0 rfl rfl rfl rfl ?_
    rw [show low1 (J 4 0 1) (16 * a + c) y = J 4 0 1 from if_neg (Int64.not_lt.mpr ((lg_cmp_ge _ _).mp q)), jr_id] at hQ
    exact hQ
  · show tkDn tm_63 (17, [some (.inr (.inr (4, 0, 1))), some (.inl (nI a)), some (.inl (nI c)), some (.inr (.inl y)), none, some (.inl (nI (16 * a + c)))], [], (I, J, R)) _
    refine dn_run 4 (show (vp_in (nI (16 * a + c)) 256) ∧ tkDn tm_63 (22, [some (.inr (.inr (4, 0, 1))), some (.inl (nI a)), some (.inl (nI c)), some (.inr (.inl y)), none, some (.inl (nI (16 * a + c)))], [], (I, tk_so J 4 0 (tk_u2 (J 4 0) 1 ((nI (16 * a + c)).toNatClampNeg) y), R)) _ from ⟨vp_in_nI (by omega) (by omega), ?_⟩)
    refine dn_ret0 rfl rfl rfl rfl ?_
    rw [show low1 (J 4 0 1) (16 * a + c) y = tk_u1 (J 4 0 1) (16 * a + c) y from if_pos (Int64.not_le.mp (fun t => q ((lg_cmp_ge _ _).mpr t)))] at hQ
    rw [nI_clamp (show 16 * a + c < 2 ^ 31 by omega)]
    exact hQ
theorem ss_lower_4_3 {I : tkI} {J : tkJ} {R : Nat → Nat} {Q : tkQ} {a c : Nat} {y : Int64} (ha : a < 16) (hc : c < 16) (hQ : Q none (I, tk_so J 4 0 (tk_u1 (J 4 0) 3 (low1 (J 4 0 3) (16 * a + c) y)), R)) : tkDn tm_63 (0, [some (.inr (.inr (4, 0, 3))), some (.inl (nI a)), some (.inl (nI c)), some (.inr (.inl y)), none, none], [], (I, J, R)) Q := by
  refine dn_run 6 (show tkDn tm_63 (8, [some (.inr (.inr (4, 0, 3))), some (.inl (nI a)), some (.inl (nI c)), some (.inr (.inl y)), none, some (.inl (((nI a) * 16) + (nI c)))], [], (I, J, R)) _ from ?_)
  rw [ix16]
  show tkDn tm_63 (8, [some (.inr (.inr (4, 0, 3))), some (.inl (nI a)), some (.inl (nI c)), some (.inr (.inl y)), none, some (.inl (nI (16 * a + c)))], [], (I, J, R)) _
  refine dn_run 5 (show (vp_in (nI (16 * a + c)) 256) ∧ tkDn tm_63 (14, [some (.inr (.inr (4, 0, 3))), some (.inl (nI a)), some (.inl (nI c)), some (.inr (.inl y)), none, some (.inl (nI (16 * a + c)))], [.inl (lg_cmp y (J 4 0 3 ((nI (16 * a + c)).toNatClampNeg)))], (I, J, R)) _ from ⟨vp_in_nI (by omega) (by omega), ?_⟩)
  rw [nI_clamp (show 16 * a + c < 2 ^ 31 by omega)]
  refine dn_if rfl rfl rfl (fun (q : 0 ≤ (lg_cmp y (J 4 0 3 (16 * a + c)))) => ?_) (fun (q : ¬ 0 ≤ (lg_cmp y (J 4 0 3 (16 * a + c)))) => ?_)
  · show tkDn tm_63 (22, [some (.inr (.inr (4, 0, 3))), some (.inl (nI a)), some (.inl (nI c)), some (.inr (.inl y)), none, some (.inl (nI (16 * a + c)))], [], (I, J, R)) _
    refine dn_ret0 rfl rfl rfl rfl ?_
    rw [show low1 (J 4 0 3) (16 * a + c) y = J 4 0 3 from if_neg (Int64.not_lt.mpr ((lg_cmp_ge _ _).mp q)), jr_id] at hQ
    exact hQ
  · show tkDn tm_63 (17, [some (.inr (.inr (4, 0, 3))), some (.inl (nI a)), some (.inl (nI c)), some (.inr (.inl y)), none, some (.inl (nI (16 * a + c)))], [], (I, J, R)) _
    refine dn_run 4 (show (vp_in (nI (16 * a + c)) 256) ∧ tkDn tm_63 (22, [some (.inr (.inr (4, 0, 3))), some (.inl (nI a)), some (.inl (nI c)), some (.inr (.inl y)), none, some (.inl (nI (16 * a + c)))], [], (I, tk_so J 4 0 (tk_u2 (J 4 0) 3 ((nI (16 * a + c)).toNatClampNeg) y), R)) _ from ⟨vp_in_nI (by omega) (by omega), ?_⟩)
    refine dn_ret0 rfl rfl rfl rfl ?_
    rw [show low1 (J 4 0 3) (16 * a + c) y = tk_u1 (J 4 0 3) (16 * a + c) y from if_pos (Int64.not_le.mp (fun t => q ((lg_cmp_ge _ _).mpr t)))] at hQ
    rw [nI_clamp (show 16 * a + c < 2 ^ 31 by omega)]
    exact hQ
theorem ss_lowerBothWays_0_1 {I : tkI} {J : tkJ} {R : Nat → Nat} {Q : tkQ} {a c : Nat} {y z : Int64} (ha : a < 16) (hc : c < 16) (hQ : Q none (I, tk_so J 0 0 (tk_u1 (J 0 0) 1 (low1 (low1 (J 0 0 1) (16 * a + c) z) (16 * c + a) (-y))), R)) : tkDn tm_64 (0, [some (.inr (.inr (0, 0, 1))), some (.inl (nI a)), some (.inl (nI c)), some (.inr (.inl y)), none, some (.inr (.inl z)), none], [], (I, J, R)) Q := by
  refine dn_run 4 (show tkDn tm_64 (5, [some (.inr (.inr (0, 0, 1))), some (.inl (nI a)), some (.inl (nI c)), some (.inr (.inl y)), none, some (.inr (.inl z)), none], [.inr (.inl z), .inl (nI c), .inl (nI a), .inr (.inr (0, 0, 1))], (I, J, R)) _ from ?_)
  refine dn_call rfl rfl rfl rfl rfl (ss_lower_0_1 ha hc ?_)
  show tkDn tm_64 (8, [some (.inr (.inr (0, 0, 1))), some (.inl (nI a)), some (.inl (nI c)), some (.inr (.inl y)), none, some (.inr (.inl z)), none], [], (I, tk_so J 0 0 (tk_u1 (J 0 0) 1 (low1 (J 0 0 1) (16 * a + c) z)), R)) _
  refine dn_run 5 (show tkDn tm_64 (13, [some (.inr (.inr (0, 0, 1))), some (.inl (nI a)), some (.inl (nI c)), some (.inr (.inl y)), none, some (.inr (.inl z)), none], [.inr (.inl (-y)), .inl (nI a), .inl (nI c), .inr (.inr (0, 0, 1))], (I, tk_so J 0 0 (tk_u1 (J 0 0) 1 (low1 (J 0 0 1) (16 * a + c) z)), R)) _ from ?_)
  refine dn_call rfl rfl rfl rfl rfl (ss_lower_0_1 hc ha ?_)
  rw [tk_so_so, tk_so_same, tk_u1_u1, tk_u1_same]
  show tkDn tm_64 (16, [some (.inr (.inr (0, 0, 1))), some (.inl (nI a)), some (.inl (nI c)), some (.inr (.inl y)), none, some (.inr (.inl z)), none], [], (I, tk_so J 0 0 (tk_u1 (J 0 0) 1 (low1 (low1 (J 0 0 1) (16 * a + c) z) (16 * c + a) (-y))), R)) _
  refine dn_ret0 rfl rfl rfl rfl ?_
  exact hQ
theorem ss_lowerBothWays_4_1 {I : tkI} {J : tkJ} {R : Nat → Nat} {Q : tkQ} {a c : Nat} {y z : Int64} (ha : a < 16) (hc : c < 16) (hQ : Q none (I, tk_so J 4 0 (tk_u1 (J 4 0) 1 (low1 (low1 (J 4 0 1) (16 * a + c) z) (16 * c + a) (-y))), R)) : tkDn tm_64 (0, [some (.inr (.inr (4, 0, 1))), some (.inl (nI a)), some (.inl (nI c)), some (.inr (.inl y)), none, some (.inr (.inl z)), none], [], (I, J, R)) Q := by
  refine dn_run 4 (show tkDn tm_64 (5, [some (.inr (.inr (4, 0, 1))), some (.inl (nI a)), some (.inl (nI c)), some (.inr (.inl y)), none, some (.inr (.inl z)), none], [.inr (.inl z), .inl (nI c), .inl (nI a), .inr (.inr (4, 0, 1))], (I, J, R)) _ from ?_)
  refine dn_call rfl rfl rfl rfl rfl (ss_lower_4_1 ha hc ?_)
  show tkDn tm_64 (8, [some (.inr (.inr (4, 0, 1))), some (.inl (nI a)), some (.inl (nI c)), some (.inr (.inl y)), none, some (.inr (.inl z)), none], [], (I, tk_so J 4 0 (tk_u1 (J 4 0) 1 (low1 (J 4 0 1) (16 * a + c) z)), R)) _
  refine dn_run 5 (show tkDn tm_64 (13, [some (.inr (.inr (4, 0, 1))), some (.inl (nI a)), some (.inl (nI c)), some (.inr (.inl y)), none, some (.inr (.inl z)), none], [.inr (.inl (-y)), .inl (nI a), .inl (nI c), .inr (.inr (4, 0, 1))], (I, tk_so J 4 0 (tk_u1 (J 4 0) 1 (low1 (J 4 0 1) (16 * a + c) z)), R)) _ from ?_)
  refine dn_call rfl rfl rfl rfl rfl (ss_lower_4_1 hc ha ?_)
  rw [tk_so_so, tk_so_same, tk_u1_u1, tk_u1_same]
  show tkDn tm_64 (16, [some (.inr (.inr (4, 0, 1))), some (.inl (nI a)), some (.inl (nI c)), some (.inr (.inl y)), none, some (.inr (.inl z)), none], [], (I, tk_so J 4 0 (tk_u1 (J 4 0) 1 (low1 (low1 (J 4 0 1) (16 * a + c) z) (16 * c + a) (-y))), R)) _
  refine dn_ret0 rfl rfl rfl rfl ?_
  exact hQ
theorem ss_ofAllLinks_0_1_loop {I : tkI} {J : tkJ} {R : Nat → Nat} {Q : tkQ} {b : Nat} {S : tkS} (hP : NetP (I 1 b) S) (w : WF S) (hQ : ∀ r, RowP 16 r (linkM S (sL S)) → Q none (I, tk_so J 0 0 (tk_u1 (J 0 0) 1 r), R)) : ∀ n l r, l + n = sL S → RowP 16 r (linkM S l) → tkDn tm_65 (6, [some (.inr (.inr (1, b, 0))), some (.inr (.inr (0, 0, 1))), some (.inl (nI l))], [], (I, tk_so J 0 0 (tk_u1 (J 0 0) 1 r), R)) Q := by
  have hM16 := w.1
  have hL60 := w.2.1
  intro n
  induction n with
  | zero =>
    intro l r hl hr
    show tkDn tm_65 (6, [some (.inr (.inr (1, b, 0))), some (.inr (.inr (0, 0, 1))), some (.inl (nI l))], [], (I, tk_so J 0 0 (tk_u1 (J 0 0) 1 r), R)) _
    refine dn_run 2 (show tkDn tm_65 (8, [some (.inr (.inr (1, b, 0))), some (.inr (.inr (0, 0, 1))), some (.inl (nI l))], [.inr (.inr (1, b, 0)), .inl (nI l)], (I, tk_so J 0 0 (tk_u1 (J 0 0) 1 r), R)) _ from ?_)
    refine dn_call rfl rfl rfl rfl rfl (sN_linkCount hP ?_)
    show tkDn tm_65 (11, [some (.inr (.inr (1, b, 0))), some (.inr (.inr (0, 0, 1))), some (.inl (nI l))], [.inl (nI (sL S)), .inl (nI l)], (I, tk_so J 0 0 (tk_u1 (J 0 0) 1 r), R)) _
    refine dn_if rfl rfl rfl (fun (c : (nI (sL S)) ≤ (nI l)) => ?_) (fun (c : ¬ (nI (sL S)) ≤ (nI l)) => ?_)
    · show tkDn tm_65 (46, [some (.inr (.inr (1, b, 0))), some (.inr (.inr (0, 0, 1))), some (.inl (nI l))], [], (I, tk_so J 0 0 (tk_u1 (J 0 0) 1 r), R)) _
      refine dn_ret0 rfl rfl rfl rfl ?_
      rw [show l = sL S by omega] at hr
      exact hQ r hr
    · exact absurd (nI_le (by omega) (by omega)) c
  | succ n ih =>
    intro l r hl hr
    have hf := w.fM (j := l) (by omega)
    have he := w.eM (j := l) (by omega)
    show tkDn tm_65 (6, [some (.inr (.inr (1, b, 0))), some (.inr (.inr (0, 0, 1))), some (.inl (nI l))], [], (I, tk_so J 0 0 (tk_u1 (J 0 0) 1 r), R)) _
    refine dn_run 2 (show tkDn tm_65 (8, [some (.inr (.inr (1, b, 0))), some (.inr (.inr (0, 0, 1))), some (.inl (nI l))], [.inr (.inr (1, b, 0)), .inl (nI l)], (I, tk_so J 0 0 (tk_u1 (J 0 0) 1 r), R)) _ from ?_)
    refine dn_call rfl rfl rfl rfl rfl (sN_linkCount hP ?_)
    show tkDn tm_65 (11, [some (.inr (.inr (1, b, 0))), some (.inr (.inr (0, 0, 1))), some (.inl (nI l))], [.inl (nI (sL S)), .inl (nI l)], (I, tk_so J 0 0 (tk_u1 (J 0 0) 1 r), R)) _
    refine dn_if rfl rfl rfl (fun (c : (nI (sL S)) ≤ (nI l)) => ?_) (fun (c : ¬ (nI (sL S)) ≤ (nI l)) => ?_)
    · exact absurd c (nI_ge (by omega) (by omega))
    · show tkDn tm_65 (14, [some (.inr (.inr (1, b, 0))), some (.inr (.inr (0, 0, 1))), some (.inl (nI l))], [], (I, tk_so J 0 0 (tk_u1 (J 0 0) 1 r), R)) _
      refine dn_run 3 (show tkDn tm_65 (17, [some (.inr (.inr (1, b, 0))), some (.inr (.inr (0, 0, 1))), some (.inl (nI l))], [.inl (nI l), .inr (.inr (1, b, 0)), .inr (.inr (0, 0, 1))], (I, tk_so J 0 0 (tk_u1 (J 0 0) 1 r), R)) _ from ?_)
      refine dn_call rfl rfl rfl rfl rfl (sN_linkFrom hP w (j := l) (by omega) ?_)
      show tkDn tm_65 (20, [some (.inr (.inr (1, b, 0))), some (.inr (.inr (0, 0, 1))), some (.inl (nI l))], [.inl (nI (sf S l)), .inr (.inr (0, 0, 1))], (I, tk_so J 0 0 (tk_u1 (J 0 0) 1 r), R)) _
      refine dn_run 2 (show tkDn tm_65 (22, [some (.inr (.inr (1, b, 0))), some (.inr (.inr (0, 0, 1))), some (.inl (nI l))], [.inl (nI l), .inr (.inr (1, b, 0)), .inl (nI (sf S l)), .inr (.inr (0, 0, 1))], (I, tk_so J 0 0 (tk_u1 (J 0 0) 1 r), R)) _ from ?_)
      refine dn_call rfl rfl rfl rfl rfl (sN_linkTo hP w (j := l) (by omega) ?_)
      show tkDn tm_65 (25, [some (.inr (.inr (1, b, 0))), some (.inr (.inr (0, 0, 1))), some (.inl (nI l))], [.inl (nI (se S l)), .inl (nI (sf S l)), .inr (.inr (0, 0, 1))], (I, tk_so J 0 0 (tk_u1 (J 0 0) 1 r), R)) _
      refine dn_run 2 (show tkDn tm_65 (27, [some (.inr (.inr (1, b, 0))), some (.inr (.inr (0, 0, 1))), some (.inl (nI l))], [.inl (nI l), .inr (.inr (1, b, 0)), .inl (nI (se S l)), .inl (nI (sf S l)), .inr (.inr (0, 0, 1))], (I, tk_so J 0 0 (tk_u1 (J 0 0) 1 r), R)) _ from ?_)
      refine dn_call rfl rfl rfl rfl rfl (sN_linkLow hP w (j := l) (by omega) ?_)
      show tkDn tm_65 (30, [some (.inr (.inr (1, b, 0))), some (.inr (.inr (0, 0, 1))), some (.inl (nI l))], [.inl (slo S l), .inl (nI (se S l)), .inl (nI (sf S l)), .inr (.inr (0, 0, 1))], (I, tk_so J 0 0 (tk_u1 (J 0 0) 1 r), R)) _
      refine dn_run 3 (show tkDn tm_65 (33, [some (.inr (.inr (1, b, 0))), some (.inr (.inr (0, 0, 1))), some (.inl (nI l))], [.inl (nI l), .inr (.inr (1, b, 0)), .inr (.inl (((slo S l) : Int32).toInt64)), .inl (nI (se S l)), .inl (nI (sf S l)), .inr (.inr (0, 0, 1))], (I, tk_so J 0 0 (tk_u1 (J 0 0) 1 r), R)) _ from ?_)
      refine dn_call rfl rfl rfl rfl rfl (sN_linkHigh hP w (j := l) (by omega) ?_)
      show tkDn tm_65 (36, [some (.inr (.inr (1, b, 0))), some (.inr (.inr (0, 0, 1))), some (.inl (nI l))], [.inl (shi S l), .inr (.inl (((slo S l) : Int32).toInt64)), .inl (nI (se S l)), .inl (nI (sf S l)), .inr (.inr (0, 0, 1))], (I, tk_so J 0 0 (tk_u1 (J 0 0) 1 r), R)) _
      refine dn_run 1 (show tkDn tm_65 (37, [some (.inr (.inr (1, b, 0))), some (.inr (.inr (0, 0, 1))), some (.inl (nI l))], [.inr (.inl (((shi S l) : Int32).toInt64)), .inr (.inl (((slo S l) : Int32).toInt64)), .inl (nI (se S l)), .inl (nI (sf S l)), .inr (.inr (0, 0, 1))], (I, tk_so J 0 0 (tk_u1 (J 0 0) 1 r), R)) _ from ?_)
      refine dn_call rfl rfl rfl rfl rfl (ss_lowerBothWays_0_1 (by omega) (by omega) ?_)
      rw [tk_so_so, tk_so_same, tk_u1_u1, tk_u1_same]
      show tkDn tm_65 (40, [some (.inr (.inr (1, b, 0))), some (.inr (.inr (0, 0, 1))), some (.inl (nI l))], [], (I, tk_so J 0 0 (tk_u1 (J 0 0) 1 (low1 (low1 r (16 * sf S l + se S l) (shi S l).toInt64) (16 * se S l + sf S l) (-(slo S l).toInt64))), R)) _
      refine dn_run 2 (show tkDn tm_65 (6, [some (.inr (.inr (1, b, 0))), some (.inr (.inr (0, 0, 1))), some (.inl ((nI l) + 1))], [], (I, tk_so J 0 0 (tk_u1 (J 0 0) 1 (low1 (low1 r (16 * sf S l + se S l) (shi S l).toInt64) (16 * se S l + sf S l) (-(slo S l).toInt64))), R)) _ from ?_)
      rw [nI_1]
      exact ih (l + 1) _ (by omega) ((hr.low (by omega) (by omega) (by omega)).low (by omega) (by omega) (by omega))
theorem ss_ofAllLinks_0_1 {I : tkI} {J : tkJ} {R : Nat → Nat} {Q : tkQ} {b : Nat} {S : tkS} (hP : NetP (I 1 b) S) (w : WF S) (hQ : ∀ r, RowP 16 r (linkM S (sL S)) → Q none (I, tk_so J 0 0 (tk_u1 (J 0 0) 1 r), R)) : tkDn tm_65 (0, [some (.inr (.inr (1, b, 0))), some (.inr (.inr (0, 0, 1))), none], [], (I, J, R)) Q := by
  refine dn_run 1 (show tkDn tm_65 (1, [some (.inr (.inr (1, b, 0))), some (.inr (.inr (0, 0, 1))), none], [.inr (.inr (0, 0, 1))], (I, J, R)) _ from ?_)
  refine dn_call rfl rfl rfl rfl rfl (ss_clear_0_1 (fun r hr => ?_))
  show tkDn tm_65 (4, [some (.inr (.inr (1, b, 0))), some (.inr (.inr (0, 0, 1))), none], [], (I, tk_so J 0 0 (tk_u1 (J 0 0) 1 r), R)) _
  refine dn_run 2 (show tkDn tm_65 (6, [some (.inr (.inr (1, b, 0))), some (.inr (.inr (0, 0, 1))), some (.inl 0)], [], (I, tk_so J 0 0 (tk_u1 (J 0 0) 1 r), R)) _ from ?_)
  exact ss_ofAllLinks_0_1_loop hP w hQ (sL S) 0 r (Nat.zero_add _) hr
theorem ss_ofAllLinks_4_1_loop {I : tkI} {J : tkJ} {R : Nat → Nat} {Q : tkQ} {b : Nat} {S : tkS} (hP : NetP (I 1 b) S) (w : WF S) (hQ : ∀ r, RowP 16 r (linkM S (sL S)) → Q none (I, tk_so J 4 0 (tk_u1 (J 4 0) 1 r), R)) : ∀ n l r, l + n = sL S → RowP 16 r (linkM S l) → tkDn tm_65 (6, [some (.inr (.inr (1, b, 0))), some (.inr (.inr (4, 0, 1))), some (.inl (nI l))], [], (I, tk_so J 4 0 (tk_u1 (J 4 0) 1 r), R)) Q := by
  have hM16 := w.1
  have hL60 := w.2.1
  intro n
  induction n with
  | zero =>
    intro l r hl hr
    show tkDn tm_65 (6, [some (.inr (.inr (1, b, 0))), some (.inr (.inr (4, 0, 1))), some (.inl (nI l))], [], (I, tk_so J 4 0 (tk_u1 (J 4 0) 1 r), R)) _
    refine dn_run 2 (show tkDn tm_65 (8, [some (.inr (.inr (1, b, 0))), some (.inr (.inr (4, 0, 1))), some (.inl (nI l))], [.inr (.inr (1, b, 0)), .inl (nI l)], (I, tk_so J 4 0 (tk_u1 (J 4 0) 1 r), R)) _ from ?_)
    refine dn_call rfl rfl rfl rfl rfl (sN_linkCount hP ?_)
    show tkDn tm_65 (11, [some (.inr (.inr (1, b, 0))), some (.inr (.inr (4, 0, 1))), some (.inl (nI l))], [.inl (nI (sL S)), .inl (nI l)], (I, tk_so J 4 0 (tk_u1 (J 4 0) 1 r), R)) _
    refine dn_if rfl rfl rfl (fun (c : (nI (sL S)) ≤ (nI l)) => ?_) (fun (c : ¬ (nI (sL S)) ≤ (nI l)) => ?_)
    · show tkDn tm_65 (46, [some (.inr (.inr (1, b, 0))), some (.inr (.inr (4, 0, 1))), some (.inl (nI l))], [], (I, tk_so J 4 0 (tk_u1 (J 4 0) 1 r), R)) _
      refine dn_ret0 rfl rfl rfl rfl ?_
      rw [show l = sL S by omega] at hr
      exact hQ r hr
    · exact absurd (nI_le (by omega) (by omega)) c
  | succ n ih =>
    intro l r hl hr
    have hf := w.fM (j := l) (by omega)
    have he := w.eM (j := l) (by omega)
    show tkDn tm_65 (6, [some (.inr (.inr (1, b, 0))), some (.inr (.inr (4, 0, 1))), some (.inl (nI l))], [], (I, tk_so J 4 0 (tk_u1 (J 4 0) 1 r), R)) _
    refine dn_run 2 (show tkDn tm_65 (8, [some (.inr (.inr (1, b, 0))), some (.inr (.inr (4, 0, 1))), some (.inl (nI l))], [.inr (.inr (1, b, 0)), .inl (nI l)], (I, tk_so J 4 0 (tk_u1 (J 4 0) 1 r), R)) _ from ?_)
    refine dn_call rfl rfl rfl rfl rfl (sN_linkCount hP ?_)
    show tkDn tm_65 (11, [some (.inr (.inr (1, b, 0))), some (.inr (.inr (4, 0, 1))), some (.inl (nI l))], [.inl (nI (sL S)), .inl (nI l)], (I, tk_so J 4 0 (tk_u1 (J 4 0) 1 r), R)) _
    refine dn_if rfl rfl rfl (fun (c : (nI (sL S)) ≤ (nI l)) => ?_) (fun (c : ¬ (nI (sL S)) ≤ (nI l)) => ?_)
    · exact absurd c (nI_ge (by omega) (by omega))
    · show tkDn tm_65 (14, [some (.inr (.inr (1, b, 0))), some (.inr (.inr (4, 0, 1))), some (.inl (nI l))], [], (I, tk_so J 4 0 (tk_u1 (J 4 0) 1 r), R)) _
      refine dn_run 3 (show tkDn tm_65 (17, [some (.inr (.inr (1, b, 0))), some (.inr (.inr (4, 0, 1))), some (.inl (nI l))], [.inl (nI l), .inr (.inr (1, b, 0)), .inr (.inr (4, 0, 1))], (I, tk_so J 4 0 (tk_u1 (J 4 0) 1 r), R)) _ from ?_)
      refine dn_call rfl rfl rfl rfl rfl (sN_linkFrom hP w (j := l) (by omega) ?_)
      show tkDn tm_65 (20, [some (.inr (.inr (1, b, 0))), some (.inr (.inr (4, 0, 1))), some (.inl (nI l))], [.inl (nI (sf S l)), .inr (.inr (4, 0, 1))], (I, tk_so J 4 0 (tk_u1 (J 4 0) 1 r), R)) _
      refine dn_run 2 (show tkDn tm_65 (22, [some (.inr (.inr (1, b, 0))), some (.inr (.inr (4, 0, 1))), some (.inl (nI l))], [.inl (nI l), .inr (.inr (1, b, 0)), .inl (nI (sf S l)), .inr (.inr (4, 0, 1))], (I, tk_so J 4 0 (tk_u1 (J 4 0) 1 r), R)) _ from ?_)
      refine dn_call rfl rfl rfl rfl rfl (sN_linkTo hP w (j := l) (by omega) ?_)
      show tkDn tm_65 (25, [some (.inr (.inr (1, b, 0))), some (.inr (.inr (4, 0, 1))), some (.inl (nI l))], [.inl (nI (se S l)), .inl (nI (sf S l)), .inr (.inr (4, 0, 1))], (I, tk_so J 4 0 (tk_u1 (J 4 0) 1 r), R)) _
      refine dn_run 2 (show tkDn tm_65 (27, [some (.inr (.inr (1, b, 0))), some (.inr (.inr (4, 0, 1))), some (.inl (nI l))], [.inl (nI l), .inr (.inr (1, b, 0)), .inl (nI (se S l)), .inl (nI (sf S l)), .inr (.inr (4, 0, 1))], (I, tk_so J 4 0 (tk_u1 (J 4 0) 1 r), R)) _ from ?_)
      refine dn_call rfl rfl rfl rfl rfl (sN_linkLow hP w (j := l) (by omega) ?_)
      show tkDn tm_65 (30, [some (.inr (.inr (1, b, 0))), some (.inr (.inr (4, 0, 1))), some (.inl (nI l))], [.inl (slo S l), .inl (nI (se S l)), .inl (nI (sf S l)), .inr (.inr (4, 0, 1))], (I, tk_so J 4 0 (tk_u1 (J 4 0) 1 r), R)) _
      refine dn_run 3 (show tkDn tm_65 (33, [some (.inr (.inr (1, b, 0))), some (.inr (.inr (4, 0, 1))), some (.inl (nI l))], [.inl (nI l), .inr (.inr (1, b, 0)), .inr (.inl (((slo S l) : Int32).toInt64)), .inl (nI (se S l)), .inl (nI (sf S l)), .inr (.inr (4, 0, 1))], (I, tk_so J 4 0 (tk_u1 (J 4 0) 1 r), R)) _ from ?_)
      refine dn_call rfl rfl rfl rfl rfl (sN_linkHigh hP w (j := l) (by omega) ?_)
      show tkDn tm_65 (36, [some (.inr (.inr (1, b, 0))), some (.inr (.inr (4, 0, 1))), some (.inl (nI l))], [.inl (shi S l), .inr (.inl (((slo S l) : Int32).toInt64)), .inl (nI (se S l)), .inl (nI (sf S l)), .inr (.inr (4, 0, 1))], (I, tk_so J 4 0 (tk_u1 (J 4 0) 1 r), R)) _
      refine dn_run 1 (show tkDn tm_65 (37, [some (.inr (.inr (1, b, 0))), some (.inr (.inr (4, 0, 1))), some (.inl (nI l))], [.inr (.inl (((shi S l) : Int32).toInt64)), .inr (.inl (((slo S l) : Int32).toInt64)), .inl (nI (se S l)), .inl (nI (sf S l)), .inr (.inr (4, 0, 1))], (I, tk_so J 4 0 (tk_u1 (J 4 0) 1 r), R)) _ from ?_)
      refine dn_call rfl rfl rfl rfl rfl (ss_lowerBothWays_4_1 (by omega) (by omega) ?_)
      rw [tk_so_so, tk_so_same, tk_u1_u1, tk_u1_same]
      show tkDn tm_65 (40, [some (.inr (.inr (1, b, 0))), some (.inr (.inr (4, 0, 1))), some (.inl (nI l))], [], (I, tk_so J 4 0 (tk_u1 (J 4 0) 1 (low1 (low1 r (16 * sf S l + se S l) (shi S l).toInt64) (16 * se S l + sf S l) (-(slo S l).toInt64))), R)) _
      refine dn_run 2 (show tkDn tm_65 (6, [some (.inr (.inr (1, b, 0))), some (.inr (.inr (4, 0, 1))), some (.inl ((nI l) + 1))], [], (I, tk_so J 4 0 (tk_u1 (J 4 0) 1 (low1 (low1 r (16 * sf S l + se S l) (shi S l).toInt64) (16 * se S l + sf S l) (-(slo S l).toInt64))), R)) _ from ?_)
      rw [nI_1]
      exact ih (l + 1) _ (by omega) ((hr.low (by omega) (by omega) (by omega)).low (by omega) (by omega) (by omega))
theorem ss_ofAllLinks_4_1 {I : tkI} {J : tkJ} {R : Nat → Nat} {Q : tkQ} {b : Nat} {S : tkS} (hP : NetP (I 1 b) S) (w : WF S) (hQ : ∀ r, RowP 16 r (linkM S (sL S)) → Q none (I, tk_so J 4 0 (tk_u1 (J 4 0) 1 r), R)) : tkDn tm_65 (0, [some (.inr (.inr (1, b, 0))), some (.inr (.inr (4, 0, 1))), none], [], (I, J, R)) Q := by
  refine dn_run 1 (show tkDn tm_65 (1, [some (.inr (.inr (1, b, 0))), some (.inr (.inr (4, 0, 1))), none], [.inr (.inr (4, 0, 1))], (I, J, R)) _ from ?_)
  refine dn_call rfl rfl rfl rfl rfl (ss_clear_4_1 (fun r hr => ?_))
  show tkDn tm_65 (4, [some (.inr (.inr (1, b, 0))), some (.inr (.inr (4, 0, 1))), none], [], (I, tk_so J 4 0 (tk_u1 (J 4 0) 1 r), R)) _
  refine dn_run 2 (show tkDn tm_65 (6, [some (.inr (.inr (1, b, 0))), some (.inr (.inr (4, 0, 1))), some (.inl 0)], [], (I, tk_so J 4 0 (tk_u1 (J 4 0) 1 r), R)) _ from ?_)
  exact ss_ofAllLinks_4_1_loop hP w hQ (sL S) 0 r (Nat.zero_add _) hr
end
section
/-! Steps.close: the closing of a table, at each place where it is used -/
theorem ss_lowerRowVia_0_1_loop {I : tkI} {J : tkJ} {R : Nat → Nat} {Q : tkQ} {d : tkD} {n a k : Nat} {F : Int64} (hn : n ≤ 16) (ha : a < n) (hk : k < n) (hQ : ∀ r, RowP 16 r (rvM d a k F n) → Q none (I, tk_so J 0 0 (tk_u1 (J 0 0) 1 r), R)) : ∀ m c r o, c + m = n → RowP 16 r (rvM d a k F c) → tkDn tm_67 (23, [some (.inr (.inr (0, 0, 1))), some (.inl (nI n)), some (.inl (nI a)), some (.inl (nI k)), some (.inl (nI a * 16)), some (.inl (nI k * 16)), some (.inr (.inl F)), none, some (.inl (nI c)), o, none], [], (I, tk_so J 0 0 (tk_u1 (J 0 0) 1 r), R)) Q := by
  intro m
  induction m with
  | zero =>
    intro c r o hc hr
    show tkDn tm_67 (23, [some (.inr (.inr (0, 0, 1))), some (.inl (nI n)), some (.inl (nI a)), some (.inl (nI k)), some (.inl (nI a * 16)), some (.inl (nI k * 16)), some (.inr (.inl F)), none, some (.inl (nI c)), o, none], [], (I, tk_so J 0 0 (tk_u1 (J 0 0) 1 r), R)) _
    refine dn_run 2 (show tkDn tm_67 (26, [some (.inr (.inr (0, 0, 1))), some (.inl (nI n)), some (.inl (nI a)), some (.inl (nI k)), some (.inl (nI a * 16)), some (.inl (nI k * 16)), some (.inr (.inl F)), none, some (.inl (nI c)), o, none], [.inl (nI n), .inl (nI c)], (I, tk_so J 0 0 (tk_u1 (J 0 0) 1 r), R)) _ from ?_)
    refine dn_if rfl rfl rfl (fun (q : (nI n) ≤ (nI c)) => ?_) (fun (q : ¬ (nI n) ≤ (nI c)) => ?_)
    · show tkDn tm_67 (90, [some (.inr (.inr (0, 0, 1))), some (.inl (nI n)), some (.inl (nI a)), some (.inl (nI k)), some (.inl (nI a * 16)), some (.inl (nI k * 16)), some (.inr (.inl F)), none, some (.inl (nI c)), o, none], [], (I, tk_so J 0 0 (tk_u1 (J 0 0) 1 r), R)) _
      refine dn_ret0 rfl rfl rfl rfl ?_
      rw [show c = n by omega] at hr
      exact hQ r hr
    · exact absurd (nI_le (by omega) (by omega)) q
  | succ m ih =>
    intro c r o hc hr
    show tkDn tm_67 (23, [some (.inr (.inr (0, 0, 1))), some (.inl (nI n)), some (.inl (nI a)), some (.inl (nI k)), some (.inl (nI a * 16)), some (.inl (nI k * 16)), some (.inr (.inl F)), none, some (.inl (nI c)), o, none], [], (I, tk_so J 0 0 (tk_u1 (J 0 0) 1 r), R)) _
    refine dn_run 2 (show tkDn tm_67 (26, [some (.inr (.inr (0, 0, 1))), some (.inl (nI n)), some (.inl (nI a)), some (.inl (nI k)), some (.inl (nI a * 16)), some (.inl (nI k * 16)), some (.inr (.inl F)), none, some (.inl (nI c)), o, none], [.inl (nI n), .inl (nI c)], (I, tk_so J 0 0 (tk_u1 (J 0 0) 1 r), R)) _ from ?_)
    refine dn_if rfl rfl rfl (fun (q : (nI n) ≤ (nI c)) => ?_) (fun (q : ¬ (nI n) ≤ (nI c)) => ?_)
    · exact absurd q (nI_ge (by omega) (by omega))
    · show tkDn tm_67 (29, [some (.inr (.inr (0, 0, 1))), some (.inl (nI n)), some (.inl (nI a)), some (.inl (nI k)), some (.inl (nI a * 16)), some (.inl (nI k * 16)), some (.inr (.inl F)), none, some (.inl (nI c)), o, none], [], (I, tk_so J 0 0 (tk_u1 (J 0 0) 1 r), R)) _
      refine dn_run 6 (show (vp_in ((nI k * 16) + (nI c)) 256) ∧ tkDn tm_67 (38, [some (.inr (.inr (0, 0, 1))), some (.inl (nI n)), some (.inl (nI a)), some (.inl (nI k)), some (.inl (nI a * 16)), some (.inl (nI k * 16)), some (.inr (.inl F)), none, some (.inl (nI c)), some (.inr (.inl (r (((nI k * 16) + (nI c)).toNatClampNeg)))), none], [], (I, tk_so J 0 0 (tk_u1 (J 0 0) 1 r), R)) _ from ⟨by rw [ix16]; exact vp_in_nI (by omega) (by omega), ?_⟩)
      rw [ix16, hr.at (by omega) (by omega) (by omega)]
      show tkDn tm_67 (38, [some (.inr (.inr (0, 0, 1))), some (.inl (nI n)), some (.inl (nI a)), some (.inl (nI k)), some (.inl (nI a * 16)), some (.inl (nI k * 16)), some (.inr (.inl F)), none, some (.inl (nI c)), some (.inr (.inl (rvM d a k F c k c))), none], [], (I, tk_so J 0 0 (tk_u1 (J 0 0) 1 r), R)) _
      refine dn_run 3 (show tkDn tm_67 (44, [some (.inr (.inr (0, 0, 1))), some (.inl (nI n)), some (.inl (nI a)), some (.inl (nI k)), some (.inl (nI a * 16)), some (.inl (nI k * 16)), some (.inr (.inl F)), none, some (.inl (nI c)), some (.inr (.inl (rvM d a k F c k c))), none], [.inl (lg_cmp F 4611686018427387904)], (I, tk_so J 0 0 (tk_u1 (J 0 0) 1 r), R)) _ from ?_)
      refine dn_if rfl rfl rfl (fun (q1 : (lg_cmp F 4611686018427387904) = 0) => ?_) (fun (q1 : ¬ (lg_cmp F 4611686018427387904) = 0) => ?_)
      · show tkDn tm_67 (84, [some (.inr (.inr (0, 0, 1))), some (.inl (nI n)), some (.inl (nI a)), some (.inl (nI k)), some (.inl (nI a * 16)), some (.inl (nI k * 16)), some (.inr (.inl F)), none, some (.inl (nI c)), some (.inr (.inl (rvM d a k F c k c))), none], [], (I, tk_so J 0 0 (tk_u1 (J 0 0) 1 r), R)) _
        refine dn_run 2 (show tkDn tm_67 (23, [some (.inr (.inr (0, 0, 1))), some (.inl (nI n)), some (.inl (nI a)), some (.inl (nI k)), some (.inl (nI a * 16)), some (.inl (nI k * 16)), some (.inr (.inl F)), none, some (.inl ((nI c) + 1)), some (.inr (.inl (rvM d a k F c k c))), none], [], (I, tk_so J 0 0 (tk_u1 (J 0 0) 1 r), R)) _ from ?_)
        rw [nI_1]
        exact ih (c + 1) r _ (by omega) (by rw [show rvM d a k F (c + 1) = rvM d a k F c from if_neg (fun z => z.1 ((lg_cmp_eq _ _).mp q1))]; exact hr)
      · show tkDn tm_67 (47, [some (.inr (.inr (0, 0, 1))), some (.inl (nI n)), some (.inl (nI a)), some (.inl (nI k)), some (.inl (nI a * 16)), some (.inl (nI k * 16)), some (.inr (.inl F)), none, some (.inl (nI c)), some (.inr (.inl (rvM d a k F c k c))), none], [], (I, tk_so J 0 0 (tk_u1 (J 0 0) 1 r), R)) _
        refine dn_run 3 (show tkDn tm_67 (53, [some (.inr (.inr (0, 0, 1))), some (.inl (nI n)), some (.inl (nI a)), some (.inl (nI k)), some (.inl (nI a * 16)), some (.inl (nI k * 16)), some (.inr (.inl F)), none, some (.inl (nI c)), some (.inr (.inl (rvM d a k F c k c))), none], [.inl (lg_cmp (rvM d a k F c k c) 4611686018427387904)], (I, tk_so J 0 0 (tk_u1 (J 0 0) 1 r), R)) _ from ?_)
        refine dn_if rfl rfl rfl (fun (q2 : (lg_cmp (rvM d a k F c k c) 4611686018427387904) = 0) => ?_) (fun (q2 : ¬ (lg_cmp (rvM d a k F c k c) 4611686018427387904) = 0) => ?_)
        · show tkDn tm_67 (84, [some (.inr (.inr (0, 0, 1))), some (.inl (nI n)), some (.inl (nI a)), some (.inl (nI k)), some (.inl (nI a * 16)), some (.inl (nI k * 16)), some (.inr (.inl F)), none, some (.inl (nI c)), some (.inr (.inl (rvM d a k F c k c))), none], [], (I, tk_so J 0 0 (tk_u1 (J 0 0) 1 r), R)) _
          refine dn_run 2 (show tkDn tm_67 (23, [some (.inr (.inr (0, 0, 1))), some (.inl (nI n)), some (.inl (nI a)), some (.inl (nI k)), some (.inl (nI a * 16)), some (.inl (nI k * 16)), some (.inr (.inl F)), none, some (.inl ((nI c) + 1)), some (.inr (.inl (rvM d a k F c k c))), none], [], (I, tk_so J 0 0 (tk_u1 (J 0 0) 1 r), R)) _ from ?_)
          rw [nI_1]
          exact ih (c + 1) r _ (by omega) (by rw [show rvM d a k F (c + 1) = rvM d a k F c from if_neg (fun z => z.2.1 ((lg_cmp_eq _ _).mp q2))]; exact hr)
        · show tkDn tm_67 (56, [some (.inr (.inr (0, 0, 1))), some (.inl (nI n)), some (.inl (nI a)), some (.inl (nI k)), some (.inl (nI a * 16)), some (.inl (nI k * 16)), some (.inr (.inl F)), none, some (.inl (nI c)), some (.inr (.inl (rvM d a k F c k c))), none], [], (I, tk_so J 0 0 (tk_u1 (J 0 0) 1 r), R)) _
          refine dn_run 9 (show (vp_in ((nI a * 16) + (nI c)) 256) ∧ tkDn tm_67 (69, [some (.inr (.inr (0, 0, 1))), some (.inl (nI n)), some (.inl (nI a)), some (.inl (nI k)), some (.inl (nI a * 16)), some (.inl (nI k * 16)), some (.inr (.inl F)), none, some (.inl (nI c)), some (.inr (.inl (rvM d a k F c k c))), none], [.inl (lg_cmp (F + (rvM d a k F c k c)) (r (((nI a * 16) + (nI c)).toNatClampNeg)))], (I, tk_so J 0 0 (tk_u1 (J 0 0) 1 r), R)) _ from ⟨by rw [ix16]; exact vp_in_nI (by omega) (by omega), ?_⟩)
          rw [ix16, hr.at (by omega) (by omega) (by omega)]
          refine dn_if rfl rfl rfl (fun (q3 : 0 ≤ (lg_cmp (F + rvM d a k F c k c) (rvM d a k F c a c))) => ?_) (fun (q3 : ¬ 0 ≤ (lg_cmp (F + rvM d a k F c k c) (rvM d a k F c a c))) => ?_)
          · show tkDn tm_67 (84, [some (.inr (.inr (0, 0, 1))), some (.inl (nI n)), some (.inl (nI a)), some (.inl (nI k)), some (.inl (nI a * 16)), some (.inl (nI k * 16)), some (.inr (.inl F)), none, some (.inl (nI c)), some (.inr (.inl (rvM d a k F c k c))), none], [], (I, tk_so J 0 0 (tk_u1 (J 0 0) 1 r), R)) _
            refine dn_run 2 (show tkDn tm_67 (23, [some (.inr (.inr (0, 0, 1))), some (.inl (nI n)), some (.inl (nI a)), some (.inl (nI k)), some (.inl (nI a * 16)), some (.inl (nI k * 16)), some (.inr (.inl F)), none, some (.inl ((nI c) + 1)), some (.inr (.inl (rvM d a k F c k c))), none], [], (I, tk_so J 0 0 (tk_u1 (J 0 0) 1 r), R)) _ from ?_)
            rw [nI_1]
            exact ih (c + 1) r _ (by omega) (by rw [show rvM d a k F (c + 1) = rvM d a k F c from if_neg (fun z => absurd z.2.2 (Int64.not_lt.mpr ((lg_cmp_ge _ _).mp q3)))]; exact hr)
          · show tkDn tm_67 (72, [some (.inr (.inr (0, 0, 1))), some (.inl (nI n)), some (.inl (nI a)), some (.inl (nI k)), some (.inl (nI a * 16)), some (.inl (nI k * 16)), some (.inr (.inl F)), none, some (.inl (nI c)), some (.inr (.inl (rvM d a k F c k c))), none], [], (I, tk_so J 0 0 (tk_u1 (J 0 0) 1 r), R)) _
            have q3 := Int64.not_le.mp (fun t => q3 ((lg_cmp_ge _ _).mpr t))
            refine dn_run 10 (show (vp_in ((nI a * 16) + (nI c)) 256) ∧ tkDn tm_67 (23, [some (.inr (.inr (0, 0, 1))), some (.inl (nI n)), some (.inl (nI a)), some (.inl (nI k)), some (.inl (nI a * 16)), some (.inl (nI k * 16)), some (.inr (.inl F)), none, some (.inl ((nI c) + 1)), some (.inr (.inl (rvM d a k F c k c))), none], [], (I, tk_so (tk_so J 0 0 (tk_u1 (J 0 0) 1 r)) 0 0 (tk_u2 (tk_u1 (J 0 0) 1 r) 1 (((nI a * 16) + (nI c)).toNatClampNeg) (F + (rvM d a k F c k c))), R)) _ from ⟨by rw [ix16]; exact vp_in_nI (by omega) (by omega), ?_⟩)
            rw [tk_so_so]
            rw [tk_u2_u1, ix16, nI_clamp (show 16 * a + c < 2 ^ 31 by omega), nI_1]
            exact ih (c + 1) _ _ (by omega) (by rw [show rvM d a k F (c + 1) = upM (rvM d a k F c) a c (F + rvM d a k F c k c) from if_pos ⟨fun z => q1 ((lg_cmp_eq _ _).mpr z), fun z => q2 ((lg_cmp_eq _ _).mpr z), q3⟩]; exact hr.put (by omega) (by omega))
theorem ss_lowerRowVia_0_1 {I : tkI} {J : tkJ} {R : Nat → Nat} {Q : tkQ} {d : tkD} {n a k : Nat} (hn : n ≤ 16) (ha : a < n) (hk : k < n) (hr : RowP 16 (J 0 0 1) d) (hQ : ∀ r, RowP 16 r (rvM d a k (d a k) n) → Q none (I, tk_so J 0 0 (tk_u1 (J 0 0) 1 r), R)) : tkDn tm_67 (0, [some (.inr (.inr (0, 0, 1))), some (.inl (nI n)), some (.inl (nI a)), some (.inl (nI k)), none, none, none, none, none, none, none], [], (I, J, R)) Q := by
  refine dn_run 14 (show (vp_in (((nI a) * 16) + (nI k)) 256) ∧ tkDn tm_67 (20, [some (.inr (.inr (0, 0, 1))), some (.inl (nI n)), some (.inl (nI a)), some (.inl (nI k)), some (.inl ((nI a) * 16)), some (.inl ((nI k) * 16)), some (.inr (.inl (J 0 0 1 ((((nI a) * 16) + (nI k)).toNatClampNeg)))), none, none, none, none], [], (I, J, R)) _ from ⟨by rw [ix16]; exact vp_in_nI (by omega) (by omega), ?_⟩)
  rw [ix16, hr.at (by omega) (by omega) (by omega)]
  show tkDn tm_67 (20, [some (.inr (.inr (0, 0, 1))), some (.inl (nI n)), some (.inl (nI a)), some (.inl (nI k)), some (.inl ((nI a) * 16)), some (.inl ((nI k) * 16)), some (.inr (.inl (d a k))), none, none, none, none], [], (I, J, R)) _
  refine dn_run 2 (show tkDn tm_67 (23, [some (.inr (.inr (0, 0, 1))), some (.inl (nI n)), some (.inl (nI a)), some (.inl (nI k)), some (.inl ((nI a) * 16)), some (.inl ((nI k) * 16)), some (.inr (.inl (d a k))), none, some (.inl 0), none, none], [], (I, J, R)) _ from ?_)
  have := ss_lowerRowVia_0_1_loop (J := J) hn ha hk hQ n 0 (J 0 0 1) none (Nat.zero_add _) hr
  rw [jr_id] at this
  exact this
theorem ss_neg_0_1_loop {I : tkI} {J : tkJ} {R : Nat → Nat} {Q : tkQ} {d : tkD} {n : Nat} (hn : n ≤ 16) (hr : RowP 16 (J 0 0 1) d) : ∀ m c, c + m = n → Q (some (.inl (if negF d m c = true then 1 else 0))) (I, J, R) → tkDn tm_68 (2, [some (.inr (.inr (0, 0, 1))), some (.inl (nI n)), some (.inl (nI c))], [], (I, J, R)) Q := by
  intro m
  induction m with
  | zero =>
    intro c hc hQ
    show tkDn tm_68 (2, [some (.inr (.inr (0, 0, 1))), some (.inl (nI n)), some (.inl (nI c))], [], (I, J, R)) _
    refine dn_run 2 (show tkDn tm_68 (4, [some (.inr (.inr (0, 0, 1))), some (.inl (nI n)), some (.inl (nI c))], [.inl (nI n), .inl (nI c)], (I, J, R)) _ from ?_)
    refine dn_if rfl rfl rfl (fun (q : (nI n) ≤ (nI c)) => ?_) (fun (q : ¬ (nI n) ≤ (nI c)) => ?_)
    · show tkDn tm_68 (28, [some (.inr (.inr (0, 0, 1))), some (.inl (nI n)), some (.inl (nI c))], [], (I, J, R)) _
      refine dn_run 1 (show tkDn tm_68 (29, [some (.inr (.inr (0, 0, 1))), some (.inl (nI n)), some (.inl (nI c))], [.inl 0], (I, J, R)) _ from ?_)
      refine dn_retb rfl rfl rfl rfl (by decide) ?_
      exact hQ
    · exact absurd (nI_le (by omega) (by omega)) q
  | succ m ih =>
    intro c hc hQ
    show tkDn tm_68 (2, [some (.inr (.inr (0, 0, 1))), some (.inl (nI n)), some (.inl (nI c))], [], (I, J, R)) _
    refine dn_run 2 (show tkDn tm_68 (4, [some (.inr (.inr (0, 0, 1))), some (.inl (nI n)), some (.inl (nI c))], [.inl (nI n), .inl (nI c)], (I, J, R)) _ from ?_)
    refine dn_if rfl rfl rfl (fun (q : (nI n) ≤ (nI c)) => ?_) (fun (q : ¬ (nI n) ≤ (nI c)) => ?_)
    · exact absurd q (nI_ge (by omega) (by omega))
    · show tkDn tm_68 (7, [some (.inr (.inr (0, 0, 1))), some (.inl (nI n)), some (.inl (nI c))], [], (I, J, R)) _
      refine dn_run 9 (show (vp_in (((nI c) * 16) + (nI c)) 256) ∧ tkDn tm_68 (17, [some (.inr (.inr (0, 0, 1))), some (.inl (nI n)), some (.inl (nI c))], [.inl (lg_cmp (J 0 0 1 ((((nI c) * 16) + (nI c)).toNatClampNeg)) 0)], (I, J, R)) _ from ⟨by rw [ix16]; exact vp_in_nI (by omega) (by omega), ?_⟩)
      rw [ix16, hr.at (by omega) (by omega) (by omega)]
      refine dn_if rfl rfl rfl (fun (q2 : 0 ≤ (lg_cmp (d c c) 0)) => ?_) (fun (q2 : ¬ 0 ≤ (lg_cmp (d c c) 0)) => ?_)
      · show tkDn tm_68 (22, [some (.inr (.inr (0, 0, 1))), some (.inl (nI n)), some (.inl (nI c))], [], (I, J, R)) _
        refine dn_run 2 (show tkDn tm_68 (2, [some (.inr (.inr (0, 0, 1))), some (.inl (nI n)), some (.inl ((nI c) + 1))], [], (I, J, R)) _ from ?_)
        rw [nI_1]
        rw [show negF d (m + 1) c = negF d m (c + 1) from if_neg (Int64.not_lt.mpr ((lg_cmp_ge _ _).mp q2))] at hQ
        exact ih (c + 1) (by omega) hQ
      · show tkDn tm_68 (20, [some (.inr (.inr (0, 0, 1))), some (.inl (nI n)), some (.inl (nI c))], [], (I, J, R)) _
        refine dn_run 1 (show tkDn tm_68 (21, [some (.inr (.inr (0, 0, 1))), some (.inl (nI n)), some (.inl (nI c))], [.inl 1], (I, J, R)) _ from ?_)
        refine dn_retb rfl rfl rfl rfl (by decide) ?_
        rw [show negF d (m + 1) c = true from if_pos (Int64.not_le.mp (fun t => q2 ((lg_cmp_ge _ _).mpr t)))] at hQ
        exact hQ
theorem ss_neg_0_1 {I : tkI} {J : tkJ} {R : Nat → Nat} {Q : tkQ} {d : tkD} {n : Nat} (hn : n ≤ 16) (hr : RowP 16 (J 0 0 1) d) (hQ : Q (some (.inl (if negF d n 0 = true then 1 else 0))) (I, J, R)) : tkDn tm_68 (0, [some (.inr (.inr (0, 0, 1))), some (.inl (nI n)), none], [], (I, J, R)) Q := by
  refine dn_run 2 (show tkDn tm_68 (2, [some (.inr (.inr (0, 0, 1))), some (.inl (nI n)), some (.inl 0)], [], (I, J, R)) _ from ?_)
  exact ss_neg_0_1_loop hn hr n 0 (Nat.zero_add _) hQ
theorem ss_close_0_1_in {I : tkI} {J : tkJ} {R : Nat → Nat} {Q : tkQ} {d : tkD} {n v : Nat} (hn : n ≤ 16) (hv : v < n) (hK : ∀ r, RowP 16 r (viM d v n n) → tkDn tm_66 (37, [some (.inr (.inr (0, 0, 1))), some (.inl (nI n)), some (.inl (nI v)), some (.inl (nI n))], [], (I, tk_so J 0 0 (tk_u1 (J 0 0) 1 r), R)) Q) : ∀ m a r, a + m = n → RowP 16 r (viM d v n a) → tkDn tm_66 (19, [some (.inr (.inr (0, 0, 1))), some (.inl (nI n)), some (.inl (nI v)), some (.inl (nI a))], [], (I, tk_so J 0 0 (tk_u1 (J 0 0) 1 r), R)) Q := by
  intro m
  induction m with
  | zero =>
    intro a r ha hr
    have ha : a = n := by omega
    subst ha
    show tkDn tm_66 (19, [some (.inr (.inr (0, 0, 1))), some (.inl (nI a)), some (.inl (nI v)), some (.inl (nI a))], [], (I, tk_so J 0 0 (tk_u1 (J 0 0) 1 r), R)) _
    refine dn_run 2 (show tkDn tm_66 (21, [some (.inr (.inr (0, 0, 1))), some (.inl (nI a)), some (.inl (nI v)), some (.inl (nI a))], [.inl (nI a), .inl (nI a)], (I, tk_so J 0 0 (tk_u1 (J 0 0) 1 r), R)) _ from ?_)
    refine dn_if rfl rfl rfl (fun (q : (nI a) ≤ (nI a)) => ?_) (fun (q : ¬ (nI a) ≤ (nI a)) => ?_)
    · show tkDn tm_66 (37, [some (.inr (.inr (0, 0, 1))), some (.inl (nI a)), some (.inl (nI v)), some (.inl (nI a))], [], (I, tk_so J 0 0 (tk_u1 (J 0 0) 1 r), R)) _
      exact hK r hr
    · exact absurd (nI_le (by omega) (by omega)) q
  | succ m ih =>
    intro a r ha hr
    show tkDn tm_66 (19, [some (.inr (.inr (0, 0, 1))), some (.inl (nI n)), some (.inl (nI v)), some (.inl (nI a))], [], (I, tk_so J 0 0 (tk_u1 (J 0 0) 1 r), R)) _
    refine dn_run 2 (show tkDn tm_66 (21, [some (.inr (.inr (0, 0, 1))), some (.inl (nI n)), some (.inl (nI v)), some (.inl (nI a))], [.inl (nI n), .inl (nI a)], (I, tk_so J 0 0 (tk_u1 (J 0 0) 1 r), R)) _ from ?_)
    refine dn_if rfl rfl rfl (fun (q : (nI n) ≤ (nI a)) => ?_) (fun (q : ¬ (nI n) ≤ (nI a)) => ?_)
    · exact absurd q (nI_ge (by omega) (by omega))
    · show tkDn tm_66 (24, [some (.inr (.inr (0, 0, 1))), some (.inl (nI n)), some (.inl (nI v)), some (.inl (nI a))], [], (I, tk_so J 0 0 (tk_u1 (J 0 0) 1 r), R)) _
      refine dn_run 4 (show tkDn tm_66 (28, [some (.inr (.inr (0, 0, 1))), some (.inl (nI n)), some (.inl (nI v)), some (.inl (nI a))], [.inl (nI v), .inl (nI a), .inl (nI n), .inr (.inr (0, 0, 1))], (I, tk_so J 0 0 (tk_u1 (J 0 0) 1 r), R)) _ from ?_)
      refine dn_call rfl rfl rfl rfl rfl (ss_lowerRowVia_0_1 (d := viM d v n a) hn (by omega) hv hr (fun r2 hr2 => ?_))
      rw [tk_so_so, tk_so_same, tk_u1_u1]
      show tkDn tm_66 (31, [some (.inr (.inr (0, 0, 1))), some (.inl (nI n)), some (.inl (nI v)), some (.inl (nI a))], [], (I, tk_so J 0 0 (tk_u1 (J 0 0) 1 r2), R)) _
      refine dn_run 2 (show tkDn tm_66 (19, [some (.inr (.inr (0, 0, 1))), some (.inl (nI n)), some (.inl (nI v)), some (.inl ((nI a) + 1))], [], (I, tk_so J 0 0 (tk_u1 (J 0 0) 1 r2), R)) _ from ?_)
      rw [nI_1]
      exact ih (a + 1) r2 (by omega) hr2
theorem ss_close_0_1_out {I : tkI} {J : tkJ} {R : Nat → Nat} {Q : tkQ} {n : Nat} (hn : n ≤ 16) : ∀ m v d r o, v + m = n → RowP 16 r d → (∀ r, RowP 16 r (clL n m v d).2 → Q (some (.inl (if (clL n m v d).1 = true then 1 else 0))) (I, tk_so J 0 0 (tk_u1 (J 0 0) 1 r), R)) → tkDn tm_66 (12, [some (.inr (.inr (0, 0, 1))), some (.inl (nI n)), some (.inl (nI v)), o], [], (I, tk_so J 0 0 (tk_u1 (J 0 0) 1 r), R)) Q := by
  intro m
  induction m with
  | zero =>
    intro v d r o hv hr hQ
    show tkDn tm_66 (12, [some (.inr (.inr (0, 0, 1))), some (.inl (nI n)), some (.inl (nI v)), o], [], (I, tk_so J 0 0 (tk_u1 (J 0 0) 1 r), R)) _
    refine dn_run 2 (show tkDn tm_66 (14, [some (.inr (.inr (0, 0, 1))), some (.inl (nI n)), some (.inl (nI v)), o], [.inl (nI n), .inl (nI v)], (I, tk_so J 0 0 (tk_u1 (J 0 0) 1 r), R)) _ from ?_)
    refine dn_if rfl rfl rfl (fun (q : (nI n) ≤ (nI v)) => ?_) (fun (q : ¬ (nI n) ≤ (nI v)) => ?_)
    · show tkDn tm_66 (53, [some (.inr (.inr (0, 0, 1))), some (.inl (nI n)), some (.inl (nI v)), o], [], (I, tk_so J 0 0 (tk_u1 (J 0 0) 1 r), R)) _
      refine dn_run 1 (show tkDn tm_66 (54, [some (.inr (.inr (0, 0, 1))), some (.inl (nI n)), some (.inl (nI v)), o], [.inl 1], (I, tk_so J 0 0 (tk_u1 (J 0 0) 1 r), R)) _ from ?_)
      refine dn_retb rfl rfl rfl rfl (by decide) ?_
      exact hQ r hr
    · exact absurd (nI_le (by omega) (by omega)) q
  | succ m ih =>
    intro v d r o hv hr hQ
    show tkDn tm_66 (12, [some (.inr (.inr (0, 0, 1))), some (.inl (nI n)), some (.inl (nI v)), o], [], (I, tk_so J 0 0 (tk_u1 (J 0 0) 1 r), R)) _
    refine dn_run 2 (show tkDn tm_66 (14, [some (.inr (.inr (0, 0, 1))), some (.inl (nI n)), some (.inl (nI v)), o], [.inl (nI n), .inl (nI v)], (I, tk_so J 0 0 (tk_u1 (J 0 0) 1 r), R)) _ from ?_)
    refine dn_if rfl rfl rfl (fun (q : (nI n) ≤ (nI v)) => ?_) (fun (q : ¬ (nI n) ≤ (nI v)) => ?_)
    · exact absurd q (nI_ge (by omega) (by omega))
    · show tkDn tm_66 (17, [some (.inr (.inr (0, 0, 1))), some (.inl (nI n)), some (.inl (nI v)), o], [], (I, tk_so J 0 0 (tk_u1 (J 0 0) 1 r), R)) _
      refine dn_run 2 (show tkDn tm_66 (19, [some (.inr (.inr (0, 0, 1))), some (.inl (nI n)), some (.inl (nI v)), some (.inl 0)], [], (I, tk_so J 0 0 (tk_u1 (J 0 0) 1 r), R)) _ from ?_)
      refine ss_close_0_1_in (d := d) hn (by omega) (fun r2 hr2 => ?_) n 0 r (Nat.zero_add _) hr
      show tkDn tm_66 (37, [some (.inr (.inr (0, 0, 1))), some (.inl (nI n)), some (.inl (nI v)), some (.inl (nI n))], [], (I, tk_so J 0 0 (tk_u1 (J 0 0) 1 r2), R)) _
      refine dn_run 2 (show tkDn tm_66 (39, [some (.inr (.inr (0, 0, 1))), some (.inl (nI n)), some (.inl (nI v)), some (.inl (nI n))], [.inl (nI n), .inr (.inr (0, 0, 1))], (I, tk_so J 0 0 (tk_u1 (J 0 0) 1 r2), R)) _ from ?_)
      refine dn_call rfl rfl rfl rfl rfl (ss_neg_0_1 hn (d := viM d v n n) hr2 ?_)
      show tkDn tm_66 (42, [some (.inr (.inr (0, 0, 1))), some (.inl (nI n)), some (.inl (nI v)), some (.inl (nI n))], [.inl (if negF (viM d v n n) n 0 = true then 1 else 0)], (I, tk_so J 0 0 (tk_u1 (J 0 0) 1 r2), R)) _
      refine dn_if rfl rfl rfl (fun (q2 : (if negF (viM d v n n) n 0 = true then 1 else 0) = 0) => ?_) (fun (q2 : ¬ (if negF (viM d v n n) n 0 = true then 1 else 0) = 0) => ?_)
      · show tkDn tm_66 (47, [some (.inr (.inr (0, 0, 1))), some (.inl (nI n)), some (.inl (nI v)), some (.inl (nI n))], [], (I, tk_so J 0 0 (tk_u1 (J 0 0) 1 r2), R)) _
        have hng : ¬ negF (viM d v n n) n 0 = true := fun z => by rw [if_pos z] at q2; exact absurd q2 (by decide)
        have e : clL n (m + 1) v d = clL n m (v + 1) (viM d v n n) := if_neg hng
        rw [e] at hQ
        refine dn_run 2 (show tkDn tm_66 (12, [some (.inr (.inr (0, 0, 1))), some (.inl (nI n)), some (.inl ((nI v) + 1)), some (.inl (nI n))], [], (I, tk_so J 0 0 (tk_u1 (J 0 0) 1 r2), R)) _ from ?_)
        rw [nI_1]
        exact ih (v + 1) _ r2 _ (by omega) hr2 hQ
      · show tkDn tm_66 (45, [some (.inr (.inr (0, 0, 1))), some (.inl (nI n)), some (.inl (nI v)), some (.inl (nI n))], [], (I, tk_so J 0 0 (tk_u1 (J 0 0) 1 r2), R)) _
        refine dn_run 1 (show tkDn tm_66 (46, [some (.inr (.inr (0, 0, 1))), some (.inl (nI n)), some (.inl (nI v)), some (.inl (nI n))], [.inl 0], (I, tk_so J 0 0 (tk_u1 (J 0 0) 1 r2), R)) _ from ?_)
        refine dn_retb rfl rfl rfl rfl (by decide) ?_
        have hng : negF (viM d v n n) n 0 = true := by by_cases z : negF (viM d v n n) n 0 = true; exact z; exact absurd (if_neg z) q2
        have e : clL n (m + 1) v d = (false, viM d v n n) := if_pos hng
        rw [e] at hQ
        exact hQ r2 hr2
theorem ss_close_0_1 {I : tkI} {J : tkJ} {R : Nat → Nat} {Q : tkQ} {d : tkD} {n : Nat} (hn : n ≤ 16) (hr : RowP 16 (J 0 0 1) d) (hQ : ∀ r, RowP 16 r (clF d n).2 → Q (some (.inl (if (clF d n).1 = true then 1 else 0))) (I, tk_so J 0 0 (tk_u1 (J 0 0) 1 r), R)) : tkDn tm_66 (0, [some (.inr (.inr (0, 0, 1))), some (.inl (nI n)), none, none], [], (I, J, R)) Q := by
  refine dn_run 2 (show tkDn tm_66 (2, [some (.inr (.inr (0, 0, 1))), some (.inl (nI n)), none, none], [.inl (nI n), .inr (.inr (0, 0, 1))], (I, J, R)) _ from ?_)
  refine dn_call rfl rfl rfl rfl rfl (ss_neg_0_1 hn hr ?_)
  show tkDn tm_66 (5, [some (.inr (.inr (0, 0, 1))), some (.inl (nI n)), none, none], [.inl (if negF d n 0 = true then 1 else 0)], (I, J, R)) _
  refine dn_if rfl rfl rfl (fun (q : (if negF d n 0 = true then 1 else 0) = 0) => ?_) (fun (q : ¬ (if negF d n 0 = true then 1 else 0) = 0) => ?_)
  · show tkDn tm_66 (10, [some (.inr (.inr (0, 0, 1))), some (.inl (nI n)), none, none], [], (I, J, R)) _
    have hng : ¬ negF d n 0 = true := fun z => by rw [if_pos z] at q; exact absurd q (by decide)
    have e : clF d n = clL n n 0 d := if_neg hng
    rw [e] at hQ
    refine dn_run 2 (show tkDn tm_66 (12, [some (.inr (.inr (0, 0, 1))), some (.inl (nI n)), some (.inl 0), none], [], (I, J, R)) _ from ?_)
    have := ss_close_0_1_out (J := J) hn n 0 d (J 0 0 1) none (Nat.zero_add _) hr hQ
    rw [jr_id] at this
    exact this
  · show tkDn tm_66 (8, [some (.inr (.inr (0, 0, 1))), some (.inl (nI n)), none, none], [], (I, J, R)) _
    refine dn_run 1 (show tkDn tm_66 (9, [some (.inr (.inr (0, 0, 1))), some (.inl (nI n)), none, none], [.inl 0], (I, J, R)) _ from ?_)
    refine dn_retb rfl rfl rfl rfl (by decide) ?_
    have hng : negF d n 0 = true := by by_cases z : negF d n 0 = true; exact z; exact absurd (if_neg z) q
    have e : clF d n = (false, d) := if_pos hng
    rw [e] at hQ
    have := hQ (J 0 0 1) hr
    rw [jr_id] at this
    exact this
theorem ss_lowerRowVia_4_1_loop {I : tkI} {J : tkJ} {R : Nat → Nat} {Q : tkQ} {d : tkD} {n a k : Nat} {F : Int64} (hn : n ≤ 16) (ha : a < n) (hk : k < n) (hQ : ∀ r, RowP 16 r (rvM d a k F n) → Q none (I, tk_so J 4 0 (tk_u1 (J 4 0) 1 r), R)) : ∀ m c r o, c + m = n → RowP 16 r (rvM d a k F c) → tkDn tm_67 (23, [some (.inr (.inr (4, 0, 1))), some (.inl (nI n)), some (.inl (nI a)), some (.inl (nI k)), some (.inl (nI a * 16)), some (.inl (nI k * 16)), some (.inr (.inl F)), none, some (.inl (nI c)), o, none], [], (I, tk_so J 4 0 (tk_u1 (J 4 0) 1 r), R)) Q := by
  intro m
  induction m with
  | zero =>
    intro c r o hc hr
    show tkDn tm_67 (23, [some (.inr (.inr (4, 0, 1))), some (.inl (nI n)), some (.inl (nI a)), some (.inl (nI k)), some (.inl (nI a * 16)), some (.inl (nI k * 16)), some (.inr (.inl F)), none, some (.inl (nI c)), o, none], [], (I, tk_so J 4 0 (tk_u1 (J 4 0) 1 r), R)) _
    refine dn_run 2 (show tkDn tm_67 (26, [some (.inr (.inr (4, 0, 1))), some (.inl (nI n)), some (.inl (nI a)), some (.inl (nI k)), some (.inl (nI a * 16)), some (.inl (nI k * 16)), some (.inr (.inl F)), none, some (.inl (nI c)), o, none], [.inl (nI n), .inl (nI c)], (I, tk_so J 4 0 (tk_u1 (J 4 0) 1 r), R)) _ from ?_)
    refine dn_if rfl rfl rfl (fun (q : (nI n) ≤ (nI c)) => ?_) (fun (q : ¬ (nI n) ≤ (nI c)) => ?_)
    · show tkDn tm_67 (90, [some (.inr (.inr (4, 0, 1))), some (.inl (nI n)), some (.inl (nI a)), some (.inl (nI k)), some (.inl (nI a * 16)), some (.inl (nI k * 16)), some (.inr (.inl F)), none, some (.inl (nI c)), o, none], [], (I, tk_so J 4 0 (tk_u1 (J 4 0) 1 r), R)) _
      refine dn_ret0 rfl rfl rfl rfl ?_
      rw [show c = n by omega] at hr
      exact hQ r hr
    · exact absurd (nI_le (by omega) (by omega)) q
  | succ m ih =>
    intro c r o hc hr
    show tkDn tm_67 (23, [some (.inr (.inr (4, 0, 1))), some (.inl (nI n)), some (.inl (nI a)), some (.inl (nI k)), some (.inl (nI a * 16)), some (.inl (nI k * 16)), some (.inr (.inl F)), none, some (.inl (nI c)), o, none], [], (I, tk_so J 4 0 (tk_u1 (J 4 0) 1 r), R)) _
    refine dn_run 2 (show tkDn tm_67 (26, [some (.inr (.inr (4, 0, 1))), some (.inl (nI n)), some (.inl (nI a)), some (.inl (nI k)), some (.inl (nI a * 16)), some (.inl (nI k * 16)), some (.inr (.inl F)), none, some (.inl (nI c)), o, none], [.inl (nI n), .inl (nI c)], (I, tk_so J 4 0 (tk_u1 (J 4 0) 1 r), R)) _ from ?_)
    refine dn_if rfl rfl rfl (fun (q : (nI n) ≤ (nI c)) => ?_) (fun (q : ¬ (nI n) ≤ (nI c)) => ?_)
    · exact absurd q (nI_ge (by omega) (by omega))
    · show tkDn tm_67 (29, [some (.inr (.inr (4, 0, 1))), some (.inl (nI n)), some (.inl (nI a)), some (.inl (nI k)), some (.inl (nI a * 16)), some (.inl (nI k * 16)), some (.inr (.inl F)), none, some (.inl (nI c)), o, none], [], (I, tk_so J 4 0 (tk_u1 (J 4 0) 1 r), R)) _
      refine dn_run 6 (show (vp_in ((nI k * 16) + (nI c)) 256) ∧ tkDn tm_67 (38, [some (.inr (.inr (4, 0, 1))), some (.inl (nI n)), some (.inl (nI a)), some (.inl (nI k)), some (.inl (nI a * 16)), some (.inl (nI k * 16)), some (.inr (.inl F)), none, some (.inl (nI c)), some (.inr (.inl (r (((nI k * 16) + (nI c)).toNatClampNeg)))), none], [], (I, tk_so J 4 0 (tk_u1 (J 4 0) 1 r), R)) _ from ⟨by rw [ix16]; exact vp_in_nI (by omega) (by omega), ?_⟩)
      rw [ix16, hr.at (by omega) (by omega) (by omega)]
      show tkDn tm_67 (38, [some (.inr (.inr (4, 0, 1))), some (.inl (nI n)), some (.inl (nI a)), some (.inl (nI k)), some (.inl (nI a * 16)), some (.inl (nI k * 16)), some (.inr (.inl F)), none, some (.inl (nI c)), some (.inr (.inl (rvM d a k F c k c))), none], [], (I, tk_so J 4 0 (tk_u1 (J 4 0) 1 r), R)) _
      refine dn_run 3 (show tkDn tm_67 (44, [some (.inr (.inr (4, 0, 1))), some (.inl (nI n)), some (.inl (nI a)), some (.inl (nI k)), some (.inl (nI a * 16)), some (.inl (nI k * 16)), some (.inr (.inl F)), none, some (.inl (nI c)), some (.inr (.inl (rvM d a k F c k c))), none], [.inl (lg_cmp F 4611686018427387904)], (I, tk_so J 4 0 (tk_u1 (J 4 0) 1 r), R)) _ from ?_)
      refine dn_if rfl rfl rfl (fun (q1 : (lg_cmp F 4611686018427387904) = 0) => ?_) (fun (q1 : ¬ (lg_cmp F 4611686018427387904) = 0) => ?_)
      · show tkDn tm_67 (84, [some (.inr (.inr (4, 0, 1))), some (.inl (nI n)), some (.inl (nI a)), some (.inl (nI k)), some (.inl (nI a * 16)), some (.inl (nI k * 16)), some (.inr (.inl F)), none, some (.inl (nI c)), some (.inr (.inl (rvM d a k F c k c))), none], [], (I, tk_so J 4 0 (tk_u1 (J 4 0) 1 r), R)) _
        refine dn_run 2 (show tkDn tm_67 (23, [some (.inr (.inr (4, 0, 1))), some (.inl (nI n)), some (.inl (nI a)), some (.inl (nI k)), some (.inl (nI a * 16)), some (.inl (nI k * 16)), some (.inr (.inl F)), none, some (.inl ((nI c) + 1)), some (.inr (.inl (rvM d a k F c k c))), none], [], (I, tk_so J 4 0 (tk_u1 (J 4 0) 1 r), R)) _ from ?_)
        rw [nI_1]
        exact ih (c + 1) r _ (by omega) (by rw [show rvM d a k F (c + 1) = rvM d a k F c from if_neg (fun z => z.1 ((lg_cmp_eq _ _).mp q1))]; exact hr)
      · show tkDn tm_67 (47, [some (.inr (.inr (4, 0, 1))), some (.inl (nI n)), some (.inl (nI a)), some (.inl (nI k)), some (.inl (nI a * 16)), some (.inl (nI k * 16)), some (.inr (.inl F)), none, some (.inl (nI c)), some (.inr (.inl (rvM d a k F c k c))), none], [], (I, tk_so J 4 0 (tk_u1 (J 4 0) 1 r), R)) _
        refine dn_run 3 (show tkDn tm_67 (53, [some (.inr (.inr (4, 0, 1))), some (.inl (nI n)), some (.inl (nI a)), some (.inl (nI k)), some (.inl (nI a * 16)), some (.inl (nI k * 16)), some (.inr (.inl F)), none, some (.inl (nI c)), some (.inr (.inl (rvM d a k F c k c))), none], [.inl (lg_cmp (rvM d a k F c k c) 4611686018427387904)], (I, tk_so J 4 0 (tk_u1 (J 4 0) 1 r), R)) _ from ?_)
        refine dn_if rfl rfl rfl (fun (q2 : (lg_cmp (rvM d a k F c k c) 4611686018427387904) = 0) => ?_) (fun (q2 : ¬ (lg_cmp (rvM d a k F c k c) 4611686018427387904) = 0) => ?_)
        · show tkDn tm_67 (84, [some (.inr (.inr (4, 0, 1))), some (.inl (nI n)), some (.inl (nI a)), some (.inl (nI k)), some (.inl (nI a * 16)), some (.inl (nI k * 16)), some (.inr (.inl F)), none, some (.inl (nI c)), some (.inr (.inl (rvM d a k F c k c))), none], [], (I, tk_so J 4 0 (tk_u1 (J 4 0) 1 r), R)) _
          refine dn_run 2 (show tkDn tm_67 (23, [some (.inr (.inr (4, 0, 1))), some (.inl (nI n)), some (.inl (nI a)), some (.inl (nI k)), some (.inl (nI a * 16)), some (.inl (nI k * 16)), some (.inr (.inl F)), none, some (.inl ((nI c) + 1)), some (.inr (.inl (rvM d a k F c k c))), none], [], (I, tk_so J 4 0 (tk_u1 (J 4 0) 1 r), R)) _ from ?_)
          rw [nI_1]
          exact ih (c + 1) r _ (by omega) (by rw [show rvM d a k F (c + 1) = rvM d a k F c from if_neg (fun z => z.2.1 ((lg_cmp_eq _ _).mp q2))]; exact hr)
        · show tkDn tm_67 (56, [some (.inr (.inr (4, 0, 1))), some (.inl (nI n)), some (.inl (nI a)), some (.inl (nI k)), some (.inl (nI a * 16)), some (.inl (nI k * 16)), some (.inr (.inl F)), none, some (.inl (nI c)), some (.inr (.inl (rvM d a k F c k c))), none], [], (I, tk_so J 4 0 (tk_u1 (J 4 0) 1 r), R)) _
          refine dn_run 9 (show (vp_in ((nI a * 16) + (nI c)) 256) ∧ tkDn tm_67 (69, [some (.inr (.inr (4, 0, 1))), some (.inl (nI n)), some (.inl (nI a)), some (.inl (nI k)), some (.inl (nI a * 16)), some (.inl (nI k * 16)), some (.inr (.inl F)), none, some (.inl (nI c)), some (.inr (.inl (rvM d a k F c k c))), none], [.inl (lg_cmp (F + (rvM d a k F c k c)) (r (((nI a * 16) + (nI c)).toNatClampNeg)))], (I, tk_so J 4 0 (tk_u1 (J 4 0) 1 r), R)) _ from ⟨by rw [ix16]; exact vp_in_nI (by omega) (by omega), ?_⟩)
          rw [ix16, hr.at (by omega) (by omega) (by omega)]
          refine dn_if rfl rfl rfl (fun (q3 : 0 ≤ (lg_cmp (F + rvM d a k F c k c) (rvM d a k F c a c))) => ?_) (fun (q3 : ¬ 0 ≤ (lg_cmp (F + rvM d a k F c k c) (rvM d a k F c a c))) => ?_)
          · show tkDn tm_67 (84, [some (.inr (.inr (4, 0, 1))), some (.inl (nI n)), some (.inl (nI a)), some (.inl (nI k)), some (.inl (nI a * 16)), some (.inl (nI k * 16)), some (.inr (.inl F)), none, some (.inl (nI c)), some (.inr (.inl (rvM d a k F c k c))), none], [], (I, tk_so J 4 0 (tk_u1 (J 4 0) 1 r), R)) _
            refine dn_run 2 (show tkDn tm_67 (23, [some (.inr (.inr (4, 0, 1))), some (.inl (nI n)), some (.inl (nI a)), some (.inl (nI k)), some (.inl (nI a * 16)), some (.inl (nI k * 16)), some (.inr (.inl F)), none, some (.inl ((nI c) + 1)), some (.inr (.inl (rvM d a k F c k c))), none], [], (I, tk_so J 4 0 (tk_u1 (J 4 0) 1 r), R)) _ from ?_)
            rw [nI_1]
            exact ih (c + 1) r _ (by omega) (by rw [show rvM d a k F (c + 1) = rvM d a k F c from if_neg (fun z => absurd z.2.2 (Int64.not_lt.mpr ((lg_cmp_ge _ _).mp q3)))]; exact hr)
          · show tkDn tm_67 (72, [some (.inr (.inr (4, 0, 1))), some (.inl (nI n)), some (.inl (nI a)), some (.inl (nI k)), some (.inl (nI a * 16)), some (.inl (nI k * 16)), some (.inr (.inl F)), none, some (.inl (nI c)), some (.inr (.inl (rvM d a k F c k c))), none], [], (I, tk_so J 4 0 (tk_u1 (J 4 0) 1 r), R)) _
            have q3 := Int64.not_le.mp (fun t => q3 ((lg_cmp_ge _ _).mpr t))
            refine dn_run 10 (show (vp_in ((nI a * 16) + (nI c)) 256) ∧ tkDn tm_67 (23, [some (.inr (.inr (4, 0, 1))), some (.inl (nI n)), some (.inl (nI a)), some (.inl (nI k)), some (.inl (nI a * 16)), some (.inl (nI k * 16)), some (.inr (.inl F)), none, some (.inl ((nI c) + 1)), some (.inr (.inl (rvM d a k F c k c))), none], [], (I, tk_so (tk_so J 4 0 (tk_u1 (J 4 0) 1 r)) 4 0 (tk_u2 (tk_u1 (J 4 0) 1 r) 1 (((nI a * 16) + (nI c)).toNatClampNeg) (F + (rvM d a k F c k c))), R)) _ from ⟨by rw [ix16]; exact vp_in_nI (by omega) (by omega), ?_⟩)
            rw [tk_so_so]
            rw [tk_u2_u1, ix16, nI_clamp (show 16 * a + c < 2 ^ 31 by omega), nI_1]
            exact ih (c + 1) _ _ (by omega) (by rw [show rvM d a k F (c + 1) = upM (rvM d a k F c) a c (F + rvM d a k F c k c) from if_pos ⟨fun z => q1 ((lg_cmp_eq _ _).mpr z), fun z => q2 ((lg_cmp_eq _ _).mpr z), q3⟩]; exact hr.put (by omega) (by omega))
theorem ss_lowerRowVia_4_1 {I : tkI} {J : tkJ} {R : Nat → Nat} {Q : tkQ} {d : tkD} {n a k : Nat} (hn : n ≤ 16) (ha : a < n) (hk : k < n) (hr : RowP 16 (J 4 0 1) d) (hQ : ∀ r, RowP 16 r (rvM d a k (d a k) n) → Q none (I, tk_so J 4 0 (tk_u1 (J 4 0) 1 r), R)) : tkDn tm_67 (0, [some (.inr (.inr (4, 0, 1))), some (.inl (nI n)), some (.inl (nI a)), some (.inl (nI k)), none, none, none, none, none, none, none], [], (I, J, R)) Q := by
  refine dn_run 14 (show (vp_in (((nI a) * 16) + (nI k)) 256) ∧ tkDn tm_67 (20, [some (.inr (.inr (4, 0, 1))), some (.inl (nI n)), some (.inl (nI a)), some (.inl (nI k)), some (.inl ((nI a) * 16)), some (.inl ((nI k) * 16)), some (.inr (.inl (J 4 0 1 ((((nI a) * 16) + (nI k)).toNatClampNeg)))), none, none, none, none], [], (I, J, R)) _ from ⟨by rw [ix16]; exact vp_in_nI (by omega) (by omega), ?_⟩)
  rw [ix16, hr.at (by omega) (by omega) (by omega)]
  show tkDn tm_67 (20, [some (.inr (.inr (4, 0, 1))), some (.inl (nI n)), some (.inl (nI a)), some (.inl (nI k)), some (.inl ((nI a) * 16)), some (.inl ((nI k) * 16)), some (.inr (.inl (d a k))), none, none, none, none], [], (I, J, R)) _
  refine dn_run 2 (show tkDn tm_67 (23, [some (.inr (.inr (4, 0, 1))), some (.inl (nI n)), some (.inl (nI a)), some (.inl (nI k)), some (.inl ((nI a) * 16)), some (.inl ((nI k) * 16)), some (.inr (.inl (d a k))), none, some (.inl 0), none, none], [], (I, J, R)) _ from ?_)
  have := ss_lowerRowVia_4_1_loop (J := J) hn ha hk hQ n 0 (J 4 0 1) none (Nat.zero_add _) hr
  rw [jr_id] at this
  exact this
theorem ss_neg_4_1_loop {I : tkI} {J : tkJ} {R : Nat → Nat} {Q : tkQ} {d : tkD} {n : Nat} (hn : n ≤ 16) (hr : RowP 16 (J 4 0 1) d) : ∀ m c, c + m = n → Q (some (.inl (if negF d m c = true then 1 else 0))) (I, J, R) → tkDn tm_68 (2, [some (.inr (.inr (4, 0, 1))), some (.inl (nI n)), some (.inl (nI c))], [], (I, J, R)) Q := by
  intro m
  induction m with
  | zero =>
    intro c hc hQ
    show tkDn tm_68 (2, [some (.inr (.inr (4, 0, 1))), some (.inl (nI n)), some (.inl (nI c))], [], (I, J, R)) _
    refine dn_run 2 (show tkDn tm_68 (4, [some (.inr (.inr (4, 0, 1))), some (.inl (nI n)), some (.inl (nI c))], [.inl (nI n), .inl (nI c)], (I, J, R)) _ from ?_)
    refine dn_if rfl rfl rfl (fun (q : (nI n) ≤ (nI c)) => ?_) (fun (q : ¬ (nI n) ≤ (nI c)) => ?_)
    · show tkDn tm_68 (28, [some (.inr (.inr (4, 0, 1))), some (.inl (nI n)), some (.inl (nI c))], [], (I, J, R)) _
      refine dn_run 1 (show tkDn tm_68 (29, [some (.inr (.inr (4, 0, 1))), some (.inl (nI n)), some (.inl (nI c))], [.inl 0], (I, J, R)) _ from ?_)
      refine dn_retb rfl rfl rfl rfl (by decide) ?_
      exact hQ
    · exact absurd (nI_le (by omega) (by omega)) q
  | succ m ih =>
    intro c hc hQ
    show tkDn tm_68 (2, [some (.inr (.inr (4, 0, 1))), some (.inl (nI n)), some (.inl (nI c))], [], (I, J, R)) _
    refine dn_run 2 (show tkDn tm_68 (4, [some (.inr (.inr (4, 0, 1))), some (.inl (nI n)), some (.inl (nI c))], [.inl (nI n), .inl (nI c)], (I, J, R)) _ from ?_)
    refine dn_if rfl rfl rfl (fun (q : (nI n) ≤ (nI c)) => ?_) (fun (q : ¬ (nI n) ≤ (nI c)) => ?_)
    · exact absurd q (nI_ge (by omega) (by omega))
    · show tkDn tm_68 (7, [some (.inr (.inr (4, 0, 1))), some (.inl (nI n)), some (.inl (nI c))], [], (I, J, R)) _
      refine dn_run 9 (show (vp_in (((nI c) * 16) + (nI c)) 256) ∧ tkDn tm_68 (17, [some (.inr (.inr (4, 0, 1))), some (.inl (nI n)), some (.inl (nI c))], [.inl (lg_cmp (J 4 0 1 ((((nI c) * 16) + (nI c)).toNatClampNeg)) 0)], (I, J, R)) _ from ⟨by rw [ix16]; exact vp_in_nI (by omega) (by omega), ?_⟩)
      rw [ix16, hr.at (by omega) (by omega) (by omega)]
      refine dn_if rfl rfl rfl (fun (q2 : 0 ≤ (lg_cmp (d c c) 0)) => ?_) (fun (q2 : ¬ 0 ≤ (lg_cmp (d c c) 0)) => ?_)
      · show tkDn tm_68 (22, [some (.inr (.inr (4, 0, 1))), some (.inl (nI n)), some (.inl (nI c))], [], (I, J, R)) _
        refine dn_run 2 (show tkDn tm_68 (2, [some (.inr (.inr (4, 0, 1))), some (.inl (nI n)), some (.inl ((nI c) + 1))], [], (I, J, R)) _ from ?_)
        rw [nI_1]
        rw [show negF d (m + 1) c = negF d m (c + 1) from if_neg (Int64.not_lt.mpr ((lg_cmp_ge _ _).mp q2))] at hQ
        exact ih (c + 1) (by omega) hQ
      · show tkDn tm_68 (20, [some (.inr (.inr (4, 0, 1))), some (.inl (nI n)), some (.inl (nI c))], [], (I, J, R)) _
        refine dn_run 1 (show tkDn tm_68 (21, [some (.inr (.inr (4, 0, 1))), some (.inl (nI n)), some (.inl (nI c))], [.inl 1], (I, J, R)) _ from ?_)
        refine dn_retb rfl rfl rfl rfl (by decide) ?_
        rw [show negF d (m + 1) c = true from if_pos (Int64.not_le.mp (fun t => q2 ((lg_cmp_ge _ _).mpr t)))] at hQ
        exact hQ
theorem ss_neg_4_1 {I : tkI} {J : tkJ} {R : Nat → Nat} {Q : tkQ} {d : tkD} {n : Nat} (hn : n ≤ 16) (hr : RowP 16 (J 4 0 1) d) (hQ : Q (some (.inl (if negF d n 0 = true then 1 else 0))) (I, J, R)) : tkDn tm_68 (0, [some (.inr (.inr (4, 0, 1))), some (.inl (nI n)), none], [], (I, J, R)) Q := by
  refine dn_run 2 (show tkDn tm_68 (2, [some (.inr (.inr (4, 0, 1))), some (.inl (nI n)), some (.inl 0)], [], (I, J, R)) _ from ?_)
  exact ss_neg_4_1_loop hn hr n 0 (Nat.zero_add _) hQ
theorem ss_close_4_1_in {I : tkI} {J : tkJ} {R : Nat → Nat} {Q : tkQ} {d : tkD} {n v : Nat} (hn : n ≤ 16) (hv : v < n) (hK : ∀ r, RowP 16 r (viM d v n n) → tkDn tm_66 (37, [some (.inr (.inr (4, 0, 1))), some (.inl (nI n)), some (.inl (nI v)), some (.inl (nI n))], [], (I, tk_so J 4 0 (tk_u1 (J 4 0) 1 r), R)) Q) : ∀ m a r, a + m = n → RowP 16 r (viM d v n a) → tkDn tm_66 (19, [some (.inr (.inr (4, 0, 1))), some (.inl (nI n)), some (.inl (nI v)), some (.inl (nI a))], [], (I, tk_so J 4 0 (tk_u1 (J 4 0) 1 r), R)) Q := by
  intro m
  induction m with
  | zero =>
    intro a r ha hr
    have ha : a = n := by omega
    subst ha
    show tkDn tm_66 (19, [some (.inr (.inr (4, 0, 1))), some (.inl (nI a)), some (.inl (nI v)), some (.inl (nI a))], [], (I, tk_so J 4 0 (tk_u1 (J 4 0) 1 r), R)) _
    refine dn_run 2 (show tkDn tm_66 (21, [some (.inr (.inr (4, 0, 1))), some (.inl (nI a)), some (.inl (nI v)), some (.inl (nI a))], [.inl (nI a), .inl (nI a)], (I, tk_so J 4 0 (tk_u1 (J 4 0) 1 r), R)) _ from ?_)
    refine dn_if rfl rfl rfl (fun (q : (nI a) ≤ (nI a)) => ?_) (fun (q : ¬ (nI a) ≤ (nI a)) => ?_)
    · show tkDn tm_66 (37, [some (.inr (.inr (4, 0, 1))), some (.inl (nI a)), some (.inl (nI v)), some (.inl (nI a))], [], (I, tk_so J 4 0 (tk_u1 (J 4 0) 1 r), R)) _
      exact hK r hr
    · exact absurd (nI_le (by omega) (by omega)) q
  | succ m ih =>
    intro a r ha hr
    show tkDn tm_66 (19, [some (.inr (.inr (4, 0, 1))), some (.inl (nI n)), some (.inl (nI v)), some (.inl (nI a))], [], (I, tk_so J 4 0 (tk_u1 (J 4 0) 1 r), R)) _
    refine dn_run 2 (show tkDn tm_66 (21, [some (.inr (.inr (4, 0, 1))), some (.inl (nI n)), some (.inl (nI v)), some (.inl (nI a))], [.inl (nI n), .inl (nI a)], (I, tk_so J 4 0 (tk_u1 (J 4 0) 1 r), R)) _ from ?_)
    refine dn_if rfl rfl rfl (fun (q : (nI n) ≤ (nI a)) => ?_) (fun (q : ¬ (nI n) ≤ (nI a)) => ?_)
    · exact absurd q (nI_ge (by omega) (by omega))
    · show tkDn tm_66 (24, [some (.inr (.inr (4, 0, 1))), some (.inl (nI n)), some (.inl (nI v)), some (.inl (nI a))], [], (I, tk_so J 4 0 (tk_u1 (J 4 0) 1 r), R)) _
      refine dn_run 4 (show tkDn tm_66 (28, [some (.inr (.inr (4, 0, 1))), some (.inl (nI n)), some (.inl (nI v)), some (.inl (nI a))], [.inl (nI v), .inl (nI a), .inl (nI n), .inr (.inr (4, 0, 1))], (I, tk_so J 4 0 (tk_u1 (J 4 0) 1 r), R)) _ from ?_)
      refine dn_call rfl rfl rfl rfl rfl (ss_lowerRowVia_4_1 (d := viM d v n a) hn (by omega) hv hr (fun r2 hr2 => ?_))
      rw [tk_so_so, tk_so_same, tk_u1_u1]
      show tkDn tm_66 (31, [some (.inr (.inr (4, 0, 1))), some (.inl (nI n)), some (.inl (nI v)), some (.inl (nI a))], [], (I, tk_so J 4 0 (tk_u1 (J 4 0) 1 r2), R)) _
      refine dn_run 2 (show tkDn tm_66 (19, [some (.inr (.inr (4, 0, 1))), some (.inl (nI n)), some (.inl (nI v)), some (.inl ((nI a) + 1))], [], (I, tk_so J 4 0 (tk_u1 (J 4 0) 1 r2), R)) _ from ?_)
      rw [nI_1]
      exact ih (a + 1) r2 (by omega) hr2
theorem ss_close_4_1_out {I : tkI} {J : tkJ} {R : Nat → Nat} {Q : tkQ} {n : Nat} (hn : n ≤ 16) : ∀ m v d r o, v + m = n → RowP 16 r d → (∀ r, RowP 16 r (clL n m v d).2 → Q (some (.inl (if (clL n m v d).1 = true then 1 else 0))) (I, tk_so J 4 0 (tk_u1 (J 4 0) 1 r), R)) → tkDn tm_66 (12, [some (.inr (.inr (4, 0, 1))), some (.inl (nI n)), some (.inl (nI v)), o], [], (I, tk_so J 4 0 (tk_u1 (J 4 0) 1 r), R)) Q := by
  intro m
  induction m with
  | zero =>
    intro v d r o hv hr hQ
    show tkDn tm_66 (12, [some (.inr (.inr (4, 0, 1))), some (.inl (nI n)), some (.inl (nI v)), o], [], (I, tk_so J 4 0 (tk_u1 (J 4 0) 1 r), R)) _
    refine dn_run 2 (show tkDn tm_66 (14, [some (.inr (.inr (4, 0, 1))), some (.inl (nI n)), some (.inl (nI v)), o], [.inl (nI n), .inl (nI v)], (I, tk_so J 4 0 (tk_u1 (J 4 0) 1 r), R)) _ from ?_)
    refine dn_if rfl rfl rfl (fun (q : (nI n) ≤ (nI v)) => ?_) (fun (q : ¬ (nI n) ≤ (nI v)) => ?_)
    · show tkDn tm_66 (53, [some (.inr (.inr (4, 0, 1))), some (.inl (nI n)), some (.inl (nI v)), o], [], (I, tk_so J 4 0 (tk_u1 (J 4 0) 1 r), R)) _
      refine dn_run 1 (show tkDn tm_66 (54, [some (.inr (.inr (4, 0, 1))), some (.inl (nI n)), some (.inl (nI v)), o], [.inl 1], (I, tk_so J 4 0 (tk_u1 (J 4 0) 1 r), R)) _ from ?_)
      refine dn_retb rfl rfl rfl rfl (by decide) ?_
      exact hQ r hr
    · exact absurd (nI_le (by omega) (by omega)) q
  | succ m ih =>
    intro v d r o hv hr hQ
    show tkDn tm_66 (12, [some (.inr (.inr (4, 0, 1))), some (.inl (nI n)), some (.inl (nI v)), o], [], (I, tk_so J 4 0 (tk_u1 (J 4 0) 1 r), R)) _
    refine dn_run 2 (show tkDn tm_66 (14, [some (.inr (.inr (4, 0, 1))), some (.inl (nI n)), some (.inl (nI v)), o], [.inl (nI n), .inl (nI v)], (I, tk_so J 4 0 (tk_u1 (J 4 0) 1 r), R)) _ from ?_)
    refine dn_if rfl rfl rfl (fun (q : (nI n) ≤ (nI v)) => ?_) (fun (q : ¬ (nI n) ≤ (nI v)) => ?_)
    · exact absurd q (nI_ge (by omega) (by omega))
    · show tkDn tm_66 (17, [some (.inr (.inr (4, 0, 1))), some (.inl (nI n)), some (.inl (nI v)), o], [], (I, tk_so J 4 0 (tk_u1 (J 4 0) 1 r), R)) _
      refine dn_run 2 (show tkDn tm_66 (19, [some (.inr (.inr (4, 0, 1))), some (.inl (nI n)), some (.inl (nI v)), some (.inl 0)], [], (I, tk_so J 4 0 (tk_u1 (J 4 0) 1 r), R)) _ from ?_)
      refine ss_close_4_1_in (d := d) hn (by omega) (fun r2 hr2 => ?_) n 0 r (Nat.zero_add _) hr
      show tkDn tm_66 (37, [some (.inr (.inr (4, 0, 1))), some (.inl (nI n)), some (.inl (nI v)), some (.inl (nI n))], [], (I, tk_so J 4 0 (tk_u1 (J 4 0) 1 r2), R)) _
      refine dn_run 2 (show tkDn tm_66 (39, [some (.inr (.inr (4, 0, 1))), some (.inl (nI n)), some (.inl (nI v)), some (.inl (nI n))], [.inl (nI n), .inr (.inr (4, 0, 1))], (I, tk_so J 4 0 (tk_u1 (J 4 0) 1 r2), R)) _ from ?_)
      refine dn_call rfl rfl rfl rfl rfl (ss_neg_4_1 hn (d := viM d v n n) hr2 ?_)
      show tkDn tm_66 (42, [some (.inr (.inr (4, 0, 1))), some (.inl (nI n)), some (.inl (nI v)), some (.inl (nI n))], [.inl (if negF (viM d v n n) n 0 = true then 1 else 0)], (I, tk_so J 4 0 (tk_u1 (J 4 0) 1 r2), R)) _
      refine dn_if rfl rfl rfl (fun (q2 : (if negF (viM d v n n) n 0 = true then 1 else 0) = 0) => ?_) (fun (q2 : ¬ (if negF (viM d v n n) n 0 = true then 1 else 0) = 0) => ?_)
      · show tkDn tm_66 (47, [some (.inr (.inr (4, 0, 1))), some (.inl (nI n)), some (.inl (nI v)), some (.inl (nI n))], [], (I, tk_so J 4 0 (tk_u1 (J 4 0) 1 r2), R)) _
        have hng : ¬ negF (viM d v n n) n 0 = true := fun z => by rw [if_pos z] at q2; exact absurd q2 (by decide)
        have e : clL n (m + 1) v d = clL n m (v + 1) (viM d v n n) := if_neg hng
        rw [e] at hQ
        refine dn_run 2 (show tkDn tm_66 (12, [some (.inr (.inr (4, 0, 1))), some (.inl (nI n)), some (.inl ((nI v) + 1)), some (.inl (nI n))], [], (I, tk_so J 4 0 (tk_u1 (J 4 0) 1 r2), R)) _ from ?_)
        rw [nI_1]
        exact ih (v + 1) _ r2 _ (by omega) hr2 hQ
      · show tkDn tm_66 (45, [some (.inr (.inr (4, 0, 1))), some (.inl (nI n)), some (.inl (nI v)), some (.inl (nI n))], [], (I, tk_so J 4 0 (tk_u1 (J 4 0) 1 r2), R)) _
        refine dn_run 1 (show tkDn tm_66 (46, [some (.inr (.inr (4, 0, 1))), some (.inl (nI n)), some (.inl (nI v)), some (.inl (nI n))], [.inl 0], (I, tk_so J 4 0 (tk_u1 (J 4 0) 1 r2), R)) _ from ?_)
        refine dn_retb rfl rfl rfl rfl (by decide) ?_
        have hng : negF (viM d v n n) n 0 = true := by by_cases z : negF (viM d v n n) n 0 = true; exact z; exact absurd (if_neg z) q2
        have e : clL n (m + 1) v d = (false, viM d v n n) := if_pos hng
        rw [e] at hQ
        exact hQ r2 hr2
theorem ss_close_4_1 {I : tkI} {J : tkJ} {R : Nat → Nat} {Q : tkQ} {d : tkD} {n : Nat} (hn : n ≤ 16) (hr : RowP 16 (J 4 0 1) d) (hQ : ∀ r, RowP 16 r (clF d n).2 → Q (some (.inl (if (clF d n).1 = true then 1 else 0))) (I, tk_so J 4 0 (tk_u1 (J 4 0) 1 r), R)) : tkDn tm_66 (0, [some (.inr (.inr (4, 0, 1))), some (.inl (nI n)), none, none], [], (I, J, R)) Q := by
  refine dn_run 2 (show tkDn tm_66 (2, [some (.inr (.inr (4, 0, 1))), some (.inl (nI n)), none, none], [.inl (nI n), .inr (.inr (4, 0, 1))], (I, J, R)) _ from ?_)
  refine dn_call rfl rfl rfl rfl rfl (ss_neg_4_1 hn hr ?_)
  show tkDn tm_66 (5, [some (.inr (.inr (4, 0, 1))), some (.inl (nI n)), none, none], [.inl (if negF d n 0 = true then 1 else 0)], (I, J, R)) _
  refine dn_if rfl rfl rfl (fun (q : (if negF d n 0 = true then 1 else 0) = 0) => ?_) (fun (q : ¬ (if negF d n 0 = true then 1 else 0) = 0) => ?_)
  · show tkDn tm_66 (10, [some (.inr (.inr (4, 0, 1))), some (.inl (nI n)), none, none], [], (I, J, R)) _
    have hng : ¬ negF d n 0 = true := fun z => by rw [if_pos z] at q; exact absurd q (by decide)
    have e : clF d n = clL n n 0 d := if_neg hng
    rw [e] at hQ
    refine dn_run 2 (show tkDn tm_66 (12, [some (.inr (.inr (4, 0, 1))), some (.inl (nI n)), some (.inl 0), none], [], (I, J, R)) _ from ?_)
    have := ss_close_4_1_out (J := J) hn n 0 d (J 4 0 1) none (Nat.zero_add _) hr hQ
    rw [jr_id] at this
    exact this
  · show tkDn tm_66 (8, [some (.inr (.inr (4, 0, 1))), some (.inl (nI n)), none, none], [], (I, J, R)) _
    refine dn_run 1 (show tkDn tm_66 (9, [some (.inr (.inr (4, 0, 1))), some (.inl (nI n)), none, none], [.inl 0], (I, J, R)) _ from ?_)
    refine dn_retb rfl rfl rfl rfl (by decide) ?_
    have hng : negF d n 0 = true := by by_cases z : negF d n 0 = true; exact z; exact absurd (if_neg z) q
    have e : clF d n = (false, d) := if_pos hng
    rw [e] at hQ
    have := hQ (J 4 0 1) hr
    rw [jr_id] at this
    exact this
theorem ss_lowerRowVia_4_3_loop {I : tkI} {J : tkJ} {R : Nat → Nat} {Q : tkQ} {d : tkD} {n a k : Nat} {F : Int64} (hn : n ≤ 16) (ha : a < n) (hk : k < n) (hQ : ∀ r, RowP 16 r (rvM d a k F n) → Q none (I, tk_so J 4 0 (tk_u1 (J 4 0) 3 r), R)) : ∀ m c r o, c + m = n → RowP 16 r (rvM d a k F c) → tkDn tm_67 (23, [some (.inr (.inr (4, 0, 3))), some (.inl (nI n)), some (.inl (nI a)), some (.inl (nI k)), some (.inl (nI a * 16)), some (.inl (nI k * 16)), some (.inr (.inl F)), none, some (.inl (nI c)), o, none], [], (I, tk_so J 4 0 (tk_u1 (J 4 0) 3 r), R)) Q := by
  intro m
  induction m with
  | zero =>
    intro c r o hc hr
    show tkDn tm_67 (23, [some (.inr (.inr (4, 0, 3))), some (.inl (nI n)), some (.inl (nI a)), some (.inl (nI k)), some (.inl (nI a * 16)), some (.inl (nI k * 16)), some (.inr (.inl F)), none, some (.inl (nI c)), o, none], [], (I, tk_so J 4 0 (tk_u1 (J 4 0) 3 r), R)) _
    refine dn_run 2 (show tkDn tm_67 (26, [some (.inr (.inr (4, 0, 3))), some (.inl (nI n)), some (.inl (nI a)), some (.inl (nI k)), some (.inl (nI a * 16)), some (.inl (nI k * 16)), some (.inr (.inl F)), none, some (.inl (nI c)), o, none], [.inl (nI n), .inl (nI c)], (I, tk_so J 4 0 (tk_u1 (J 4 0) 3 r), R)) _ from ?_)
    refine dn_if rfl rfl rfl (fun (q : (nI n) ≤ (nI c)) => ?_) (fun (q : ¬ (nI n) ≤ (nI c)) => ?_)
    · show tkDn tm_67 (90, [some (.inr (.inr (4, 0, 3))), some (.inl (nI n)), some (.inl (nI a)), some (.inl (nI k)), some (.inl (nI a * 16)), some (.inl (nI k * 16)), some (.inr (.inl F)), none, some (.inl (nI c)), o, none], [], (I, tk_so J 4 0 (tk_u1 (J 4 0) 3 r), R)) _
      refine dn_ret0 rfl rfl rfl rfl ?_
      rw [show c = n by omega] at hr
      exact hQ r hr
    · exact absurd (nI_le (by omega) (by omega)) q
  | succ m ih =>
    intro c r o hc hr
    show tkDn tm_67 (23, [some (.inr (.inr (4, 0, 3))), some (.inl (nI n)), some (.inl (nI a)), some (.inl (nI k)), some (.inl (nI a * 16)), some (.inl (nI k * 16)), some (.inr (.inl F)), none, some (.inl (nI c)), o, none], [], (I, tk_so J 4 0 (tk_u1 (J 4 0) 3 r), R)) _
    refine dn_run 2 (show tkDn tm_67 (26, [some (.inr (.inr (4, 0, 3))), some (.inl (nI n)), some (.inl (nI a)), some (.inl (nI k)), some (.inl (nI a * 16)), some (.inl (nI k * 16)), some (.inr (.inl F)), none, some (.inl (nI c)), o, none], [.inl (nI n), .inl (nI c)], (I, tk_so J 4 0 (tk_u1 (J 4 0) 3 r), R)) _ from ?_)
    refine dn_if rfl rfl rfl (fun (q : (nI n) ≤ (nI c)) => ?_) (fun (q : ¬ (nI n) ≤ (nI c)) => ?_)
    · exact absurd q (nI_ge (by omega) (by omega))
    · show tkDn tm_67 (29, [some (.inr (.inr (4, 0, 3))), some (.inl (nI n)), some (.inl (nI a)), some (.inl (nI k)), some (.inl (nI a * 16)), some (.inl (nI k * 16)), some (.inr (.inl F)), none, some (.inl (nI c)), o, none], [], (I, tk_so J 4 0 (tk_u1 (J 4 0) 3 r), R)) _
      refine dn_run 6 (show (vp_in ((nI k * 16) + (nI c)) 256) ∧ tkDn tm_67 (38, [some (.inr (.inr (4, 0, 3))), some (.inl (nI n)), some (.inl (nI a)), some (.inl (nI k)), some (.inl (nI a * 16)), some (.inl (nI k * 16)), some (.inr (.inl F)), none, some (.inl (nI c)), some (.inr (.inl (r (((nI k * 16) + (nI c)).toNatClampNeg)))), none], [], (I, tk_so J 4 0 (tk_u1 (J 4 0) 3 r), R)) _ from ⟨by rw [ix16]; exact vp_in_nI (by omega) (by omega), ?_⟩)
      rw [ix16, hr.at (by omega) (by omega) (by omega)]
      show tkDn tm_67 (38, [some (.inr (.inr (4, 0, 3))), some (.inl (nI n)), some (.inl (nI a)), some (.inl (nI k)), some (.inl (nI a * 16)), some (.inl (nI k * 16)), some (.inr (.inl F)), none, some (.inl (nI c)), some (.inr (.inl (rvM d a k F c k c))), none], [], (I, tk_so J 4 0 (tk_u1 (J 4 0) 3 r), R)) _
      refine dn_run 3 (show tkDn tm_67 (44, [some (.inr (.inr (4, 0, 3))), some (.inl (nI n)), some (.inl (nI a)), some (.inl (nI k)), some (.inl (nI a * 16)), some (.inl (nI k * 16)), some (.inr (.inl F)), none, some (.inl (nI c)), some (.inr (.inl (rvM d a k F c k c))), none], [.inl (lg_cmp F 4611686018427387904)], (I, tk_so J 4 0 (tk_u1 (J 4 0) 3 r), R)) _ from ?_)
      refine dn_if rfl rfl rfl (fun (q1 : (lg_cmp F 4611686018427387904) = 0) => ?_) (fun (q1 : ¬ (lg_cmp F 4611686018427387904) = 0) => ?_)
      · show tkDn tm_67 (84, [some (.inr (.inr (4, 0, 3))), some (.inl (nI n)), some (.inl (nI a)), some (.inl (nI k)), some (.inl (nI a * 16)), some (.inl (nI k * 16)), some (.inr (.inl F)), none, some (.inl (nI c)), some (.inr (.inl (rvM d a k F c k c))), none], [], (I, tk_so J 4 0 (tk_u1 (J 4 0) 3 r), R)) _
        refine dn_run 2 (show tkDn tm_67 (23, [some (.inr (.inr (4, 0, 3))), some (.inl (nI n)), some (.inl (nI a)), some (.inl (nI k)), some (.inl (nI a * 16)), some (.inl (nI k * 16)), some (.inr (.inl F)), none, some (.inl ((nI c) + 1)), some (.inr (.inl (rvM d a k F c k c))), none], [], (I, tk_so J 4 0 (tk_u1 (J 4 0) 3 r), R)) _ from ?_)
        rw [nI_1]
        exact ih (c + 1) r _ (by omega) (by rw [show rvM d a k F (c + 1) = rvM d a k F c from if_neg (fun z => z.1 ((lg_cmp_eq _ _).mp q1))]; exact hr)
      · show tkDn tm_67 (47, [some (.inr (.inr (4, 0, 3))), some (.inl (nI n)), some (.inl (nI a)), some (.inl (nI k)), some (.inl (nI a * 16)), some (.inl (nI k * 16)), some (.inr (.inl F)), none, some (.inl (nI c)), some (.inr (.inl (rvM d a k F c k c))), none], [], (I, tk_so J 4 0 (tk_u1 (J 4 0) 3 r), R)) _
        refine dn_run 3 (show tkDn tm_67 (53, [some (.inr (.inr (4, 0, 3))), some (.inl (nI n)), some (.inl (nI a)), some (.inl (nI k)), some (.inl (nI a * 16)), some (.inl (nI k * 16)), some (.inr (.inl F)), none, some (.inl (nI c)), some (.inr (.inl (rvM d a k F c k c))), none], [.inl (lg_cmp (rvM d a k F c k c) 4611686018427387904)], (I, tk_so J 4 0 (tk_u1 (J 4 0) 3 r), R)) _ from ?_)
        refine dn_if rfl rfl rfl (fun (q2 : (lg_cmp (rvM d a k F c k c) 4611686018427387904) = 0) => ?_) (fun (q2 : ¬ (lg_cmp (rvM d a k F c k c) 4611686018427387904) = 0) => ?_)
        · show tkDn tm_67 (84, [some (.inr (.inr (4, 0, 3))), some (.inl (nI n)), some (.inl (nI a)), some (.inl (nI k)), some (.inl (nI a * 16)), some (.inl (nI k * 16)), some (.inr (.inl F)), none, some (.inl (nI c)), some (.inr (.inl (rvM d a k F c k c))), none], [], (I, tk_so J 4 0 (tk_u1 (J 4 0) 3 r), R)) _
          refine dn_run 2 (show tkDn tm_67 (23, [some (.inr (.inr (4, 0, 3))), some (.inl (nI n)), some (.inl (nI a)), some (.inl (nI k)), some (.inl (nI a * 16)), some (.inl (nI k * 16)), some (.inr (.inl F)), none, some (.inl ((nI c) + 1)), some (.inr (.inl (rvM d a k F c k c))), none], [], (I, tk_so J 4 0 (tk_u1 (J 4 0) 3 r), R)) _ from ?_)
          rw [nI_1]
          exact ih (c + 1) r _ (by omega) (by rw [show rvM d a k F (c + 1) = rvM d a k F c from if_neg (fun z => z.2.1 ((lg_cmp_eq _ _).mp q2))]; exact hr)
        · show tkDn tm_67 (56, [some (.inr (.inr (4, 0, 3))), some (.inl (nI n)), some (.inl (nI a)), some (.inl (nI k)), some (.inl (nI a * 16)), some (.inl (nI k * 16)), some (.inr (.inl F)), none, some (.inl (nI c)), some (.inr (.inl (rvM d a k F c k c))), none], [], (I, tk_so J 4 0 (tk_u1 (J 4 0) 3 r), R)) _
          refine dn_run 9 (show (vp_in ((nI a * 16) + (nI c)) 256) ∧ tkDn tm_67 (69, [some (.inr (.inr (4, 0, 3))), some (.inl (nI n)), some (.inl (nI a)), some (.inl (nI k)), some (.inl (nI a * 16)), some (.inl (nI k * 16)), some (.inr (.inl F)), none, some (.inl (nI c)), some (.inr (.inl (rvM d a k F c k c))), none], [.inl (lg_cmp (F + (rvM d a k F c k c)) (r (((nI a * 16) + (nI c)).toNatClampNeg)))], (I, tk_so J 4 0 (tk_u1 (J 4 0) 3 r), R)) _ from ⟨by rw [ix16]; exact vp_in_nI (by omega) (by omega), ?_⟩)
          rw [ix16, hr.at (by omega) (by omega) (by omega)]
          refine dn_if rfl rfl rfl (fun (q3 : 0 ≤ (lg_cmp (F + rvM d a k F c k c) (rvM d a k F c a c))) => ?_) (fun (q3 : ¬ 0 ≤ (lg_cmp (F + rvM d a k F c k c) (rvM d a k F c a c))) => ?_)
          · show tkDn tm_67 (84, [some (.inr (.inr (4, 0, 3))), some (.inl (nI n)), some (.inl (nI a)), some (.inl (nI k)), some (.inl (nI a * 16)), some (.inl (nI k * 16)), some (.inr (.inl F)), none, some (.inl (nI c)), some (.inr (.inl (rvM d a k F c k c))), none], [], (I, tk_so J 4 0 (tk_u1 (J 4 0) 3 r), R)) _
            refine dn_run 2 (show tkDn tm_67 (23, [some (.inr (.inr (4, 0, 3))), some (.inl (nI n)), some (.inl (nI a)), some (.inl (nI k)), some (.inl (nI a * 16)), some (.inl (nI k * 16)), some (.inr (.inl F)), none, some (.inl ((nI c) + 1)), some (.inr (.inl (rvM d a k F c k c))), none], [], (I, tk_so J 4 0 (tk_u1 (J 4 0) 3 r), R)) _ from ?_)
            rw [nI_1]
            exact ih (c + 1) r _ (by omega) (by rw [show rvM d a k F (c + 1) = rvM d a k F c from if_neg (fun z => absurd z.2.2 (Int64.not_lt.mpr ((lg_cmp_ge _ _).mp q3)))]; exact hr)
          · show tkDn tm_67 (72, [some (.inr (.inr (4, 0, 3))), some (.inl (nI n)), some (.inl (nI a)), some (.inl (nI k)), some (.inl (nI a * 16)), some (.inl (nI k * 16)), some (.inr (.inl F)), none, some (.inl (nI c)), some (.inr (.inl (rvM d a k F c k c))), none], [], (I, tk_so J 4 0 (tk_u1 (J 4 0) 3 r), R)) _
            have q3 := Int64.not_le.mp (fun t => q3 ((lg_cmp_ge _ _).mpr t))
            refine dn_run 10 (show (vp_in ((nI a * 16) + (nI c)) 256) ∧ tkDn tm_67 (23, [some (.inr (.inr (4, 0, 3))), some (.inl (nI n)), some (.inl (nI a)), some (.inl (nI k)), some (.inl (nI a * 16)), some (.inl (nI k * 16)), some (.inr (.inl F)), none, some (.inl ((nI c) + 1)), some (.inr (.inl (rvM d a k F c k c))), none], [], (I, tk_so (tk_so J 4 0 (tk_u1 (J 4 0) 3 r)) 4 0 (tk_u2 (tk_u1 (J 4 0) 3 r) 3 (((nI a * 16) + (nI c)).toNatClampNeg) (F + (rvM d a k F c k c))), R)) _ from ⟨by rw [ix16]; exact vp_in_nI (by omega) (by omega), ?_⟩)
            rw [tk_so_so]
            rw [tk_u2_u1, ix16, nI_clamp (show 16 * a + c < 2 ^ 31 by omega), nI_1]
            exact ih (c + 1) _ _ (by omega) (by rw [show rvM d a k F (c + 1) = upM (rvM d a k F c) a c (F + rvM d a k F c k c) from if_pos ⟨fun z => q1 ((lg_cmp_eq _ _).mpr z), fun z => q2 ((lg_cmp_eq _ _).mpr z), q3⟩]; exact hr.put (by omega) (by omega))
theorem ss_lowerRowVia_4_3 {I : tkI} {J : tkJ} {R : Nat → Nat} {Q : tkQ} {d : tkD} {n a k : Nat} (hn : n ≤ 16) (ha : a < n) (hk : k < n) (hr : RowP 16 (J 4 0 3) d) (hQ : ∀ r, RowP 16 r (rvM d a k (d a k) n) → Q none (I, tk_so J 4 0 (tk_u1 (J 4 0) 3 r), R)) : tkDn tm_67 (0, [some (.inr (.inr (4, 0, 3))), some (.inl (nI n)), some (.inl (nI a)), some (.inl (nI k)), none, none, none, none, none, none, none], [], (I, J, R)) Q := by
  refine dn_run 14 (show (vp_in (((nI a) * 16) + (nI k)) 256) ∧ tkDn tm_67 (20, [some (.inr (.inr (4, 0, 3))), some (.inl (nI n)), some (.inl (nI a)), some (.inl (nI k)), some (.inl ((nI a) * 16)), some (.inl ((nI k) * 16)), some (.inr (.inl (J 4 0 3 ((((nI a) * 16) + (nI k)).toNatClampNeg)))), none, none, none, none], [], (I, J, R)) _ from ⟨by rw [ix16]; exact vp_in_nI (by omega) (by omega), ?_⟩)
  rw [ix16, hr.at (by omega) (by omega) (by omega)]
  show tkDn tm_67 (20, [some (.inr (.inr (4, 0, 3))), some (.inl (nI n)), some (.inl (nI a)), some (.inl (nI k)), some (.inl ((nI a) * 16)), some (.inl ((nI k) * 16)), some (.inr (.inl (d a k))), none, none, none, none], [], (I, J, R)) _
  refine dn_run 2 (show tkDn tm_67 (23, [some (.inr (.inr (4, 0, 3))), some (.inl (nI n)), some (.inl (nI a)), some (.inl (nI k)), some (.inl ((nI a) * 16)), some (.inl ((nI k) * 16)), some (.inr (.inl (d a k))), none, some (.inl 0), none, none], [], (I, J, R)) _ from ?_)
  have := ss_lowerRowVia_4_3_loop (J := J) hn ha hk hQ n 0 (J 4 0 3) none (Nat.zero_add _) hr
  rw [jr_id] at this
  exact this
theorem ss_neg_4_3_loop {I : tkI} {J : tkJ} {R : Nat → Nat} {Q : tkQ} {d : tkD} {n : Nat} (hn : n ≤ 16) (hr : RowP 16 (J 4 0 3) d) : ∀ m c, c + m = n → Q (some (.inl (if negF d m c = true then 1 else 0))) (I, J, R) → tkDn tm_68 (2, [some (.inr (.inr (4, 0, 3))), some (.inl (nI n)), some (.inl (nI c))], [], (I, J, R)) Q := by
  intro m
  induction m with
  | zero =>
    intro c hc hQ
    show tkDn tm_68 (2, [some (.inr (.inr (4, 0, 3))), some (.inl (nI n)), some (.inl (nI c))], [], (I, J, R)) _
    refine dn_run 2 (show tkDn tm_68 (4, [some (.inr (.inr (4, 0, 3))), some (.inl (nI n)), some (.inl (nI c))], [.inl (nI n), .inl (nI c)], (I, J, R)) _ from ?_)
    refine dn_if rfl rfl rfl (fun (q : (nI n) ≤ (nI c)) => ?_) (fun (q : ¬ (nI n) ≤ (nI c)) => ?_)
    · show tkDn tm_68 (28, [some (.inr (.inr (4, 0, 3))), some (.inl (nI n)), some (.inl (nI c))], [], (I, J, R)) _
      refine dn_run 1 (show tkDn tm_68 (29, [some (.inr (.inr (4, 0, 3))), some (.inl (nI n)), some (.inl (nI c))], [.inl 0], (I, J, R)) _ from ?_)
      refine dn_retb rfl rfl rfl rfl (by decide) ?_
      exact hQ
    · exact absurd (nI_le (by omega) (by omega)) q
  | succ m ih =>
    intro c hc hQ
    show tkDn tm_68 (2, [some (.inr (.inr (4, 0, 3))), some (.inl (nI n)), some (.inl (nI c))], [], (I, J, R)) _
    refine dn_run 2 (show tkDn tm_68 (4, [some (.inr (.inr (4, 0, 3))), some (.inl (nI n)), some (.inl (nI c))], [.inl (nI n), .inl (nI c)], (I, J, R)) _ from ?_)
    refine dn_if rfl rfl rfl (fun (q : (nI n) ≤ (nI c)) => ?_) (fun (q : ¬ (nI n) ≤ (nI c)) => ?_)
    · exact absurd q (nI_ge (by omega) (by omega))
    · show tkDn tm_68 (7, [some (.inr (.inr (4, 0, 3))), some (.inl (nI n)), some (.inl (nI c))], [], (I, J, R)) _
      refine dn_run 9 (show (vp_in (((nI c) * 16) + (nI c)) 256) ∧ tkDn tm_68 (17, [some (.inr (.inr (4, 0, 3))), some (.inl (nI n)), some (.inl (nI c))], [.inl (lg_cmp (J 4 0 3 ((((nI c) * 16) + (nI c)).toNatClampNeg)) 0)], (I, J, R)) _ from ⟨by rw [ix16]; exact vp_in_nI (by omega) (by omega), ?_⟩)
      rw [ix16, hr.at (by omega) (by omega) (by omega)]
      refine dn_if rfl rfl rfl (fun (q2 : 0 ≤ (lg_cmp (d c c) 0)) => ?_) (fun (q2 : ¬ 0 ≤ (lg_cmp (d c c) 0)) => ?_)
      · show tkDn tm_68 (22, [some (.inr (.inr (4, 0, 3))), some (.inl (nI n)), some (.inl (nI c))], [], (I, J, R)) _
        refine dn_run 2 (show tkDn tm_68 (2, [some (.inr (.inr (4, 0, 3))), some (.inl (nI n)), some (.inl ((nI c) + 1))], [], (I, J, R)) _ from ?_)
        rw [nI_1]
        rw [show negF d (m + 1) c = negF d m (c + 1) from if_neg (Int64.not_lt.mpr ((lg_cmp_ge _ _).mp q2))] at hQ
        exact ih (c + 1) (by omega) hQ
      · show tkDn tm_68 (20, [some (.inr (.inr (4, 0, 3))), some (.inl (nI n)), some (.inl (nI c))], [], (I, J, R)) _
        refine dn_run 1 (show tkDn tm_68 (21, [some (.inr (.inr (4, 0, 3))), some (.inl (nI n)), some (.inl (nI c))], [.inl 1], (I, J, R)) _ from ?_)
        refine dn_retb rfl rfl rfl rfl (by decide) ?_
        rw [show negF d (m + 1) c = true from if_pos (Int64.not_le.mp (fun t => q2 ((lg_cmp_ge _ _).mpr t)))] at hQ
        exact hQ
theorem ss_neg_4_3 {I : tkI} {J : tkJ} {R : Nat → Nat} {Q : tkQ} {d : tkD} {n : Nat} (hn : n ≤ 16) (hr : RowP 16 (J 4 0 3) d) (hQ : Q (some (.inl (if negF d n 0 = true then 1 else 0))) (I, J, R)) : tkDn tm_68 (0, [some (.inr (.inr (4, 0, 3))), some (.inl (nI n)), none], [], (I, J, R)) Q := by
  refine dn_run 2 (show tkDn tm_68 (2, [some (.inr (.inr (4, 0, 3))), some (.inl (nI n)), some (.inl 0)], [], (I, J, R)) _ from ?_)
  exact ss_neg_4_3_loop hn hr n 0 (Nat.zero_add _) hQ
theorem ss_close_4_3_in {I : tkI} {J : tkJ} {R : Nat → Nat} {Q : tkQ} {d : tkD} {n v : Nat} (hn : n ≤ 16) (hv : v < n) (hK : ∀ r, RowP 16 r (viM d v n n) → tkDn tm_66 (37, [some (.inr (.inr (4, 0, 3))), some (.inl (nI n)), some (.inl (nI v)), some (.inl (nI n))], [], (I, tk_so J 4 0 (tk_u1 (J 4 0) 3 r), R)) Q) : ∀ m a r, a + m = n → RowP 16 r (viM d v n a) → tkDn tm_66 (19, [some (.inr (.inr (4, 0, 3))), some (.inl (nI n)), some (.inl (nI v)), some (.inl (nI a))], [], (I, tk_so J 4 0 (tk_u1 (J 4 0) 3 r), R)) Q := by
  intro m
  induction m with
  | zero =>
    intro a r ha hr
    have ha : a = n := by omega
    subst ha
    show tkDn tm_66 (19, [some (.inr (.inr (4, 0, 3))), some (.inl (nI a)), some (.inl (nI v)), some (.inl (nI a))], [], (I, tk_so J 4 0 (tk_u1 (J 4 0) 3 r), R)) _
    refine dn_run 2 (show tkDn tm_66 (21, [some (.inr (.inr (4, 0, 3))), some (.inl (nI a)), some (.inl (nI v)), some (.inl (nI a))], [.inl (nI a), .inl (nI a)], (I, tk_so J 4 0 (tk_u1 (J 4 0) 3 r), R)) _ from ?_)
    refine dn_if rfl rfl rfl (fun (q : (nI a) ≤ (nI a)) => ?_) (fun (q : ¬ (nI a) ≤ (nI a)) => ?_)
    · show tkDn tm_66 (37, [some (.inr (.inr (4, 0, 3))), some (.inl (nI a)), some (.inl (nI v)), some (.inl (nI a))], [], (I, tk_so J 4 0 (tk_u1 (J 4 0) 3 r), R)) _
      exact hK r hr
    · exact absurd (nI_le (by omega) (by omega)) q
  | succ m ih =>
    intro a r ha hr
    show tkDn tm_66 (19, [some (.inr (.inr (4, 0, 3))), some (.inl (nI n)), some (.inl (nI v)), some (.inl (nI a))], [], (I, tk_so J 4 0 (tk_u1 (J 4 0) 3 r), R)) _
    refine dn_run 2 (show tkDn tm_66 (21, [some (.inr (.inr (4, 0, 3))), some (.inl (nI n)), some (.inl (nI v)), some (.inl (nI a))], [.inl (nI n), .inl (nI a)], (I, tk_so J 4 0 (tk_u1 (J 4 0) 3 r), R)) _ from ?_)
    refine dn_if rfl rfl rfl (fun (q : (nI n) ≤ (nI a)) => ?_) (fun (q : ¬ (nI n) ≤ (nI a)) => ?_)
    · exact absurd q (nI_ge (by omega) (by omega))
    · show tkDn tm_66 (24, [some (.inr (.inr (4, 0, 3))), some (.inl (nI n)), some (.inl (nI v)), some (.inl (nI a))], [], (I, tk_so J 4 0 (tk_u1 (J 4 0) 3 r), R)) _
      refine dn_run 4 (show tkDn tm_66 (28, [some (.inr (.inr (4, 0, 3))), some (.inl (nI n)), some (.inl (nI v)), some (.inl (nI a))], [.inl (nI v), .inl (nI a), .inl (nI n), .inr (.inr (4, 0, 3))], (I, tk_so J 4 0 (tk_u1 (J 4 0) 3 r), R)) _ from ?_)
      refine dn_call rfl rfl rfl rfl rfl (ss_lowerRowVia_4_3 (d := viM d v n a) hn (by omega) hv hr (fun r2 hr2 => ?_))
      rw [tk_so_so, tk_so_same, tk_u1_u1]
      show tkDn tm_66 (31, [some (.inr (.inr (4, 0, 3))), some (.inl (nI n)), some (.inl (nI v)), some (.inl (nI a))], [], (I, tk_so J 4 0 (tk_u1 (J 4 0) 3 r2), R)) _
      refine dn_run 2 (show tkDn tm_66 (19, [some (.inr (.inr (4, 0, 3))), some (.inl (nI n)), some (.inl (nI v)), some (.inl ((nI a) + 1))], [], (I, tk_so J 4 0 (tk_u1 (J 4 0) 3 r2), R)) _ from ?_)
      rw [nI_1]
      exact ih (a + 1) r2 (by omega) hr2
theorem ss_close_4_3_out {I : tkI} {J : tkJ} {R : Nat → Nat} {Q : tkQ} {n : Nat} (hn : n ≤ 16) : ∀ m v d r o, v + m = n → RowP 16 r d → (∀ r, RowP 16 r (clL n m v d).2 → Q (some (.inl (if (clL n m v d).1 = true then 1 else 0))) (I, tk_so J 4 0 (tk_u1 (J 4 0) 3 r), R)) → tkDn tm_66 (12, [some (.inr (.inr (4, 0, 3))), some (.inl (nI n)), some (.inl (nI v)), o], [], (I, tk_so J 4 0 (tk_u1 (J 4 0) 3 r), R)) Q := by
  intro m
  induction m with
  | zero =>
    intro v d r o hv hr hQ
    show tkDn tm_66 (12, [some (.inr (.inr (4, 0, 3))), some (.inl (nI n)), some (.inl (nI v)), o], [], (I, tk_so J 4 0 (tk_u1 (J 4 0) 3 r), R)) _
    refine dn_run 2 (show tkDn tm_66 (14, [some (.inr (.inr (4, 0, 3))), some (.inl (nI n)), some (.inl (nI v)), o], [.inl (nI n), .inl (nI v)], (I, tk_so J 4 0 (tk_u1 (J 4 0) 3 r), R)) _ from ?_)
    refine dn_if rfl rfl rfl (fun (q : (nI n) ≤ (nI v)) => ?_) (fun (q : ¬ (nI n) ≤ (nI v)) => ?_)
    · show tkDn tm_66 (53, [some (.inr (.inr (4, 0, 3))), some (.inl (nI n)), some (.inl (nI v)), o], [], (I, tk_so J 4 0 (tk_u1 (J 4 0) 3 r), R)) _
      refine dn_run 1 (show tkDn tm_66 (54, [some (.inr (.inr (4, 0, 3))), some (.inl (nI n)), some (.inl (nI v)), o], [.inl 1], (I, tk_so J 4 0 (tk_u1 (J 4 0) 3 r), R)) _ from ?_)
      refine dn_retb rfl rfl rfl rfl (by decide) ?_
      exact hQ r hr
    · exact absurd (nI_le (by omega) (by omega)) q
  | succ m ih =>
    intro v d r o hv hr hQ
    show tkDn tm_66 (12, [some (.inr (.inr (4, 0, 3))), some (.inl (nI n)), some (.inl (nI v)), o], [], (I, tk_so J 4 0 (tk_u1 (J 4 0) 3 r), R)) _
    refine dn_run 2 (show tkDn tm_66 (14, [some (.inr (.inr (4, 0, 3))), some (.inl (nI n)), some (.inl (nI v)), o], [.inl (nI n), .inl (nI v)], (I, tk_so J 4 0 (tk_u1 (J 4 0) 3 r), R)) _ from ?_)
    refine dn_if rfl rfl rfl (fun (q : (nI n) ≤ (nI v)) => ?_) (fun (q : ¬ (nI n) ≤ (nI v)) => ?_)
    · exact absurd q (nI_ge (by omega) (by omega))
    · show tkDn tm_66 (17, [some (.inr (.inr (4, 0, 3))), some (.inl (nI n)), some (.inl (nI v)), o], [], (I, tk_so J 4 0 (tk_u1 (J 4 0) 3 r), R)) _
      refine dn_run 2 (show tkDn tm_66 (19, [some (.inr (.inr (4, 0, 3))), some (.inl (nI n)), some (.inl (nI v)), some (.inl 0)], [], (I, tk_so J 4 0 (tk_u1 (J 4 0) 3 r), R)) _ from ?_)
      refine ss_close_4_3_in (d := d) hn (by omega) (fun r2 hr2 => ?_) n 0 r (Nat.zero_add _) hr
      show tkDn tm_66 (37, [some (.inr (.inr (4, 0, 3))), some (.inl (nI n)), some (.inl (nI v)), some (.inl (nI n))], [], (I, tk_so J 4 0 (tk_u1 (J 4 0) 3 r2), R)) _
      refine dn_run 2 (show tkDn tm_66 (39, [some (.inr (.inr (4, 0, 3))), some (.inl (nI n)), some (.inl (nI v)), some (.inl (nI n))], [.inl (nI n), .inr (.inr (4, 0, 3))], (I, tk_so J 4 0 (tk_u1 (J 4 0) 3 r2), R)) _ from ?_)
      refine dn_call rfl rfl rfl rfl rfl (ss_neg_4_3 hn (d := viM d v n n) hr2 ?_)
      show tkDn tm_66 (42, [some (.inr (.inr (4, 0, 3))), some (.inl (nI n)), some (.inl (nI v)), some (.inl (nI n))], [.inl (if negF (viM d v n n) n 0 = true then 1 else 0)], (I, tk_so J 4 0 (tk_u1 (J 4 0) 3 r2), R)) _
      refine dn_if rfl rfl rfl (fun (q2 : (if negF (viM d v n n) n 0 = true then 1 else 0) = 0) => ?_) (fun (q2 : ¬ (if negF (viM d v n n) n 0 = true then 1 else 0) = 0) => ?_)
      · show tkDn tm_66 (47, [some (.inr (.inr (4, 0, 3))), some (.inl (nI n)), some (.inl (nI v)), some (.inl (nI n))], [], (I, tk_so J 4 0 (tk_u1 (J 4 0) 3 r2), R)) _
        have hng : ¬ negF (viM d v n n) n 0 = true := fun z => by rw [if_pos z] at q2; exact absurd q2 (by decide)
        have e : clL n (m + 1) v d = clL n m (v + 1) (viM d v n n) := if_neg hng
        rw [e] at hQ
        refine dn_run 2 (show tkDn tm_66 (12, [some (.inr (.inr (4, 0, 3))), some (.inl (nI n)), some (.inl ((nI v) + 1)), some (.inl (nI n))], [], (I, tk_so J 4 0 (tk_u1 (J 4 0) 3 r2), R)) _ from ?_)
        rw [nI_1]
        exact ih (v + 1) _ r2 _ (by omega) hr2 hQ
      · show tkDn tm_66 (45, [some (.inr (.inr (4, 0, 3))), some (.inl (nI n)), some (.inl (nI v)), some (.inl (nI n))], [], (I, tk_so J 4 0 (tk_u1 (J 4 0) 3 r2), R)) _
        refine dn_run 1 (show tkDn tm_66 (46, [some (.inr (.inr (4, 0, 3))), some (.inl (nI n)), some (.inl (nI v)), some (.inl (nI n))], [.inl 0], (I, tk_so J 4 0 (tk_u1 (J 4 0) 3 r2), R)) _ from ?_)
        refine dn_retb rfl rfl rfl rfl (by decide) ?_
        have hng : negF (viM d v n n) n 0 = true := by by_cases z : negF (viM d v n n) n 0 = true; exact z; exact absurd (if_neg z) q2
        have e : clL n (m + 1) v d = (false, viM d v n n) := if_pos hng
        rw [e] at hQ
        exact hQ r2 hr2
theorem ss_close_4_3 {I : tkI} {J : tkJ} {R : Nat → Nat} {Q : tkQ} {d : tkD} {n : Nat} (hn : n ≤ 16) (hr : RowP 16 (J 4 0 3) d) (hQ : ∀ r, RowP 16 r (clF d n).2 → Q (some (.inl (if (clF d n).1 = true then 1 else 0))) (I, tk_so J 4 0 (tk_u1 (J 4 0) 3 r), R)) : tkDn tm_66 (0, [some (.inr (.inr (4, 0, 3))), some (.inl (nI n)), none, none], [], (I, J, R)) Q := by
  refine dn_run 2 (show tkDn tm_66 (2, [some (.inr (.inr (4, 0, 3))), some (.inl (nI n)), none, none], [.inl (nI n), .inr (.inr (4, 0, 3))], (I, J, R)) _ from ?_)
  refine dn_call rfl rfl rfl rfl rfl (ss_neg_4_3 hn hr ?_)
  show tkDn tm_66 (5, [some (.inr (.inr (4, 0, 3))), some (.inl (nI n)), none, none], [.inl (if negF d n 0 = true then 1 else 0)], (I, J, R)) _
  refine dn_if rfl rfl rfl (fun (q : (if negF d n 0 = true then 1 else 0) = 0) => ?_) (fun (q : ¬ (if negF d n 0 = true then 1 else 0) = 0) => ?_)
  · show tkDn tm_66 (10, [some (.inr (.inr (4, 0, 3))), some (.inl (nI n)), none, none], [], (I, J, R)) _
    have hng : ¬ negF d n 0 = true := fun z => by rw [if_pos z] at q; exact absurd q (by decide)
    have e : clF d n = clL n n 0 d := if_neg hng
    rw [e] at hQ
    refine dn_run 2 (show tkDn tm_66 (12, [some (.inr (.inr (4, 0, 3))), some (.inl (nI n)), some (.inl 0), none], [], (I, J, R)) _ from ?_)
    have := ss_close_4_3_out (J := J) hn n 0 d (J 4 0 3) none (Nat.zero_add _) hr hQ
    rw [jr_id] at this
    exact this
  · show tkDn tm_66 (8, [some (.inr (.inr (4, 0, 3))), some (.inl (nI n)), none, none], [], (I, J, R)) _
    refine dn_run 1 (show tkDn tm_66 (9, [some (.inr (.inr (4, 0, 3))), some (.inl (nI n)), none, none], [.inl 0], (I, J, R)) _ from ?_)
    refine dn_retb rfl rfl rfl rfl (by decide) ?_
    have hng : negF d n 0 = true := by by_cases z : negF d n 0 = true; exact z; exact absurd (if_neg z) q
    have e : clF d n = (false, d) := if_pos hng
    rw [e] at hQ
    have := hQ (J 4 0 3) hr
    rw [jr_id] at this
    exact this
end
section
/-! HANGS TOGETHER, STRONG, WEAK, in numbers -/
def togF (S : tkS) : Bool × tkD := clF (linkM S (sL S)) (sM S)
def rtF (S : tkS) : Nat → Nat → Nat
  | 0, m => m
  | n + 1, m => if gt S m < sG S then rtF S n (sf S (sgl S (gt S m))) else m
def gbF (S : tkS) : Nat → Nat → Int32 → Int32
  | 0, _, acc => acc
  | n + 1, m, acc => if gt S m < sG S then gbF S n (sf S (sgl S (gt S m))) (acc ||| (1 <<< (nI (gt S m) &&& 31))) else acc
def chL (S : tkS) (k : Int32) (g : Nat) : Int32 := if (k >>> (nI g &&& 31)) &&& 1 = 1 then shi S (sgl S g) else slo S (sgl S g)
def slS (S : tkS) (mask k : Int32) : Nat → Int64
  | 0 => 0
  | g + 1 => if (mask >>> (nI g &&& 31)) &&& 1 = 1 then slS S mask k g + (chL S k g).toInt64 else slS S mask k g
def wwM (S : tkS) (d : tkD) (l : Nat) : tkD :=
  lowM (lowM d (rtF S 6 (sf S l)) (rtF S 6 (se S l)) ((shi S l).toInt64 - (slS S (gbF S 6 (se S l) 0 &&& (gbF S 6 (sf S l) 0 ^^^ -1)) 63 (sG S) - slS S (gbF S 6 (sf S l) 0 &&& (gbF S 6 (se S l) 0 ^^^ -1)) 0 (sG S))))
    (rtF S 6 (se S l)) (rtF S 6 (sf S l)) (-((slo S l).toInt64 - (slS S (gbF S 6 (se S l) 0 &&& (gbF S 6 (sf S l) 0 ^^^ -1)) 0 (sG S) - slS S (gbF S 6 (sf S l) 0 &&& (gbF S 6 (se S l) 0 ^^^ -1)) 63 (sG S))))
def stM (S : tkS) : Nat → tkD
  | 0 => d0M
  | l + 1 => if sgn S l = -9 then wwM S (stM S l) l else stM S l
def strF (S : tkS) : Bool × tkD := clF (stM S (sL S)) (sM S)
def cbM (S : tkS) (k : Int32) : Nat → tkD
  | 0 => linkM S (sL S)
  | g + 1 => lowM (lowM (cbM S k g) (sf S (sgl S g)) (se S (sgl S g)) (chL S k g).toInt64) (se S (sgl S g)) (sf S (sgl S g)) (-(chL S k g).toInt64)
def metF (S : tkS) (k : Int32) : Bool × tkD := clF (cbM S k (sG S)) (sM S)
def skF (S : tkS) : Nat → Nat → Int32
  | 0, _ => -9
  | n + 1, k => if (metF S (nI k)).1 = true then skF S n (k + 1) else nI k
def spo (S : tkS) : Int32 := skF S (2 ^ sG S) 0
theorem shl1 : ∀ G, G < 7 → (1 : Int32) <<< (nI G &&& 31) = nI (2 ^ G) := by decide
theorem pw2 : ∀ G, G < 7 → 2 ^ G ≤ 64 := by decide
theorem rtF_lt {S : tkS} (w : WF S) : ∀ n m, m < sM S → rtF S n m < sM S := by
  intro n
  induction n with
  | zero => intro m hm; exact hm
  | succ n ih =>
    intro m hm
    unfold rtF
    split
    · rename_i q
      exact ih _ (w.fM (w.gl q))
    · exact hm
end
section
/-! Choices -/
theorem sc_hangsTogether {I : tkI} {J : tkJ} {R : Nat → Nat} {Q : tkQ} {b : Nat} {S : tkS} (hP : NetP (I 1 b) S) (w : WF S) (hQ : ∀ r, RowP 16 r (togF S).2 → Q (some (.inl (if (togF S).1 = true then 1 else 0))) (I, tk_so J 0 0 (tk_u1 (J 0 0) 1 r), R)) : tkDn tm_1 (0, [some (.inr (.inr (0, 0, 0))), some (.inr (.inr (1, b, 0)))], [], (I, J, R)) Q := by
  have hM16 := w.1
  have hL60 := w.2.1
  have hG6 := w.2.2.1
  refine dn_run 3 (show tkDn tm_1 (5, [some (.inr (.inr (0, 0, 0))), some (.inr (.inr (1, b, 0)))], [.inr (.inr (0, 0, 1)), .inr (.inr (1, b, 0))], (I, J, R)) _ from ?_)
  refine dn_call rfl rfl rfl rfl rfl (ss_ofAllLinks_0_1 hP w (fun r hr => ?_))
  show tkDn tm_1 (8, [some (.inr (.inr (0, 0, 0))), some (.inr (.inr (1, b, 0)))], [], (I, tk_so J 0 0 (tk_u1 (J 0 0) 1 r), R)) _
  refine dn_run 3 (show tkDn tm_1 (13, [some (.inr (.inr (0, 0, 0))), some (.inr (.inr (1, b, 0)))], [.inr (.inr (1, b, 0)), .inr (.inr (0, 0, 1))], (I, tk_so J 0 0 (tk_u1 (J 0 0) 1 r), R)) _ from ?_)
  refine dn_call rfl rfl rfl rfl rfl (sN_momentCount hP ?_)
  show tkDn tm_1 (16, [some (.inr (.inr (0, 0, 0))), some (.inr (.inr (1, b, 0)))], [.inl (nI (sM S)), .inr (.inr (0, 0, 1))], (I, tk_so J 0 0 (tk_u1 (J 0 0) 1 r), R)) _
  refine dn_call rfl rfl rfl rfl rfl (ss_close_0_1 (d := linkM S (sL S)) hM16 hr (fun r3 hr3 => ?_))
  rw [tk_so_so, tk_so_same, tk_u1_u1]
  show tkDn tm_1 (19, [some (.inr (.inr (0, 0, 0))), some (.inr (.inr (1, b, 0)))], [.inl (if (clF (linkM S (sL S)) (sM S)).1 = true then 1 else 0)], (I, tk_so J 0 0 (tk_u1 (J 0 0) 1 r3), R)) _
  refine dn_retb rfl rfl rfl rfl (by by_cases z : (clF (linkM S (sL S)) (sM S)).1 = true; exact Or.inr (if_pos z); exact Or.inl (if_neg z)) ?_
  exact hQ r3 hr3
theorem sc_leastSum {I : tkI} {J : tkJ} {R : Nat → Nat} {Q : tkQ} {d : tkD} {a c : Nat} (hr : RowP 16 (J 0 0 1) d) (ha : a < 16) (hc : c < 16) (hQ : Q (some (.inr (.inl (d a c)))) (I, J, R)) : tkDn tm_2 (0, [some (.inr (.inr (0, 0, 0))), some (.inl (nI a)), some (.inl (nI c))], [], (I, J, R)) Q := by
  refine dn_run 4 (show tkDn tm_2 (6, [some (.inr (.inr (0, 0, 0))), some (.inl (nI a)), some (.inl (nI c))], [.inl (nI c), .inl (nI a), .inr (.inr (0, 0, 1))], (I, J, R)) _ from ?_)
  refine dn_call rfl rfl rfl rfl rfl (ss_cell ?_)
  show tkDn tm_2 (9, [some (.inr (.inr (0, 0, 0))), some (.inl (nI a)), some (.inl (nI c))], [.inl (nI (16 * a + c)), .inr (.inr (0, 0, 1))], (I, J, R)) _
  refine dn_run 1 (show (vp_in (nI (16 * a + c)) 256) ∧ tkDn tm_2 (10, [some (.inr (.inr (0, 0, 0))), some (.inl (nI a)), some (.inl (nI c))], [.inr (.inl (J 0 0 1 ((nI (16 * a + c)).toNatClampNeg)))], (I, J, R)) _ from ⟨vp_in_nI (by omega) (by omega), ?_⟩)
  rw [hr.at (by omega) ha hc]
  refine dn_ret0 rfl rfl rfl rfl ?_
  exact hQ
theorem sc_rootOf_loop {I : tkI} {J : tkJ} {R : Nat → Nat} {Q : tkQ} {b : Nat} {S : tkS} (hP : NetP (I 1 b) S) (w : WF S) {m : Nat} : ∀ n t q o, q + n = 6 → t < sM S → Q (some (.inl (nI (rtF S n t)))) (I, J, R) → tkDn tm_5 (4, [some (.inr (.inr (1, b, 0))), some (.inl (nI m)), some (.inl (nI t)), some (.inl (nI q)), o], [], (I, J, R)) Q := by
  have hM16 := w.1
  have hL60 := w.2.1
  have hG6 := w.2.2.1
  intro n
  induction n with
  | zero =>
    intro t q o hq ht hQ
    show tkDn tm_5 (4, [some (.inr (.inr (1, b, 0))), some (.inl (nI m)), some (.inl (nI t)), some (.inl (nI q)), o], [], (I, J, R)) _
    refine dn_run 2 (show tkDn tm_5 (7, [some (.inr (.inr (1, b, 0))), some (.inl (nI m)), some (.inl (nI t)), some (.inl (nI q)), o], [.inl 6, .inl (nI q)], (I, J, R)) _ from ?_)
    refine dn_if rfl rfl rfl (fun (c : 6 ≤ (nI q)) => ?_) (fun (c : ¬ 6 ≤ (nI q)) => ?_)
    · show tkDn tm_5 (39, [some (.inr (.inr (1, b, 0))), some (.inl (nI m)), some (.inl (nI t)), some (.inl (nI q)), o], [], (I, J, R)) _
      refine dn_run 1 (show tkDn tm_5 (40, [some (.inr (.inr (1, b, 0))), some (.inl (nI m)), some (.inl (nI t)), some (.inl (nI q)), o], [.inl (nI t)], (I, J, R)) _ from ?_)
      refine dn_ret0 rfl rfl rfl rfl ?_
      exact hQ
    · exact absurd (nI_le (a := 6) (by omega) (by omega)) c
  | succ n ih =>
    intro t q o hq ht hQ
    show tkDn tm_5 (4, [some (.inr (.inr (1, b, 0))), some (.inl (nI m)), some (.inl (nI t)), some (.inl (nI q)), o], [], (I, J, R)) _
    refine dn_run 2 (show tkDn tm_5 (7, [some (.inr (.inr (1, b, 0))), some (.inl (nI m)), some (.inl (nI t)), some (.inl (nI q)), o], [.inl 6, .inl (nI q)], (I, J, R)) _ from ?_)
    refine dn_if rfl rfl rfl (fun (c : 6 ≤ (nI q)) => ?_) (fun (c : ¬ 6 ≤ (nI q)) => ?_)
    · exact absurd c (nI_ge (b := 6) (by omega) (by omega))
    · show tkDn tm_5 (10, [some (.inr (.inr (1, b, 0))), some (.inl (nI m)), some (.inl (nI t)), some (.inl (nI q)), o], [], (I, J, R)) _
      refine dn_run 2 (show tkDn tm_5 (12, [some (.inr (.inr (1, b, 0))), some (.inl (nI m)), some (.inl (nI t)), some (.inl (nI q)), o], [.inl (nI t), .inr (.inr (1, b, 0))], (I, J, R)) _ from ?_)
      refine dn_call rfl rfl rfl rfl rfl (sn_giftInto hP w (by omega) ?_)
      show tkDn tm_5 (15, [some (.inr (.inr (1, b, 0))), some (.inl (nI m)), some (.inl (nI t)), some (.inl (nI q)), o], [.inl (if gt S t < sG S then nI (gt S t) else -9)], (I, J, R)) _
      refine dn_run 3 (show tkDn tm_5 (21, [some (.inr (.inr (1, b, 0))), some (.inl (nI m)), some (.inl (nI t)), some (.inl (nI q)), some (.inl (if gt S t < sG S then nI (gt S t) else -9))], [.inl (-9), .inl (if gt S t < sG S then nI (gt S t) else -9)], (I, J, R)) _ from ?_)
      refine dn_if rfl rfl rfl (fun (c2 : ¬ (if gt S t < sG S then nI (gt S t) else -9) = (-9)) => ?_) (fun (c2 : (if gt S t < sG S then nI (gt S t) else -9) = (-9)) => ?_)
      · show tkDn tm_5 (26, [some (.inr (.inr (1, b, 0))), some (.inl (nI m)), some (.inl (nI t)), some (.inl (nI q)), some (.inl (if gt S t < sG S then nI (gt S t) else -9))], [], (I, J, R)) _
        have hg : gt S t < sG S := by by_cases z : gt S t < sG S; exact z; exact absurd (if_neg z) c2
        rw [if_pos hg]
        show tkDn tm_5 (26, [some (.inr (.inr (1, b, 0))), some (.inl (nI m)), some (.inl (nI t)), some (.inl (nI q)), some (.inl (nI (gt S t)))], [], (I, J, R)) _
        refine dn_run 2 (show tkDn tm_5 (29, [some (.inr (.inr (1, b, 0))), some (.inl (nI m)), some (.inl (nI t)), some (.inl (nI q)), some (.inl (nI (gt S t)))], [.inl (nI (gt S t)), .inr (.inr (1, b, 0))], (I, J, R)) _ from ?_)
        refine dn_call rfl rfl rfl rfl rfl (sN_giftFrom hP w hg ?_)
        show tkDn tm_5 (32, [some (.inr (.inr (1, b, 0))), some (.inl (nI m)), some (.inl (nI t)), some (.inl (nI q)), some (.inl (nI (gt S t)))], [.inl (nI (sf S (sgl S (gt S t))))], (I, J, R)) _
        refine dn_run 3 (show tkDn tm_5 (4, [some (.inr (.inr (1, b, 0))), some (.inl (nI m)), some (.inl (nI (sf S (sgl S (gt S t))))), some (.inl ((nI q) + 1)), some (.inl (nI (gt S t)))], [], (I, J, R)) _ from ?_)
        rw [nI_1]
        rw [show rtF S (n + 1) t = rtF S n (sf S (sgl S (gt S t))) from if_pos hg] at hQ
        exact ih _ (q + 1) _ (by omega) (w.fM (w.gl hg)) hQ
      · show tkDn tm_5 (24, [some (.inr (.inr (1, b, 0))), some (.inl (nI m)), some (.inl (nI t)), some (.inl (nI q)), some (.inl (if gt S t < sG S then nI (gt S t) else -9))], [], (I, J, R)) _
        refine dn_run 1 (show tkDn tm_5 (25, [some (.inr (.inr (1, b, 0))), some (.inl (nI m)), some (.inl (nI t)), some (.inl (nI q)), some (.inl (if gt S t < sG S then nI (gt S t) else -9))], [.inl (nI t)], (I, J, R)) _ from ?_)
        refine dn_ret0 rfl rfl rfl rfl ?_
        have hg : ¬ gt S t < sG S := fun z => by rw [if_pos z] at c2; exact nI_n9 (by omega) c2
        rw [show rtF S (n + 1) t = t from if_neg hg] at hQ
        exact hQ
theorem sc_rootOf {I : tkI} {J : tkJ} {R : Nat → Nat} {Q : tkQ} {b : Nat} {S : tkS} (hP : NetP (I 1 b) S) (w : WF S) {m : Nat} (hm : m < sM S) (hQ : Q (some (.inl (nI (rtF S 6 m)))) (I, J, R)) : tkDn tm_5 (0, [some (.inr (.inr (1, b, 0))), some (.inl (nI m)), none, none, none], [], (I, J, R)) Q := by
  refine dn_run 4 (show tkDn tm_5 (4, [some (.inr (.inr (1, b, 0))), some (.inl (nI m)), some (.inl (nI m)), some (.inl 0), none], [], (I, J, R)) _ from ?_)
  exact sc_rootOf_loop hP w 6 m 0 none rfl hm hQ
theorem sc_giftsBehind_loop {I : tkI} {J : tkJ} {R : Nat → Nat} {Q : tkQ} {b : Nat} {S : tkS} (hP : NetP (I 1 b) S) (w : WF S) {m : Nat} : ∀ n t acc q o, q + n = 6 → t < sM S → Q (some (.inl (gbF S n t acc))) (I, J, R) → tkDn tm_6 (7, [some (.inr (.inr (1, b, 0))), some (.inl (nI m)), some (.inl (nI t)), some (.inl acc), some (.inl (nI q)), o], [], (I, J, R)) Q := by
  have hM16 := w.1
  have hL60 := w.2.1
  have hG6 := w.2.2.1
  intro n
  induction n with
  | zero =>
    intro t acc q o hq ht hQ
    show tkDn tm_6 (7, [some (.inr (.inr (1, b, 0))), some (.inl (nI m)), some (.inl (nI t)), some (.inl acc), some (.inl (nI q)), o], [], (I, J, R)) _
    refine dn_run 2 (show tkDn tm_6 (11, [some (.inr (.inr (1, b, 0))), some (.inl (nI m)), some (.inl (nI t)), some (.inl acc), some (.inl (nI q)), o], [.inl 6, .inl (nI q)], (I, J, R)) _ from ?_)
    refine dn_if rfl rfl rfl (fun (c : 6 ≤ (nI q)) => ?_) (fun (c : ¬ 6 ≤ (nI q)) => ?_)
    · show tkDn tm_6 (50, [some (.inr (.inr (1, b, 0))), some (.inl (nI m)), some (.inl (nI t)), some (.inl acc), some (.inl (nI q)), o], [], (I, J, R)) _
      refine dn_run 1 (show tkDn tm_6 (51, [some (.inr (.inr (1, b, 0))), some (.inl (nI m)), some (.inl (nI t)), some (.inl acc), some (.inl (nI q)), o], [.inl acc], (I, J, R)) _ from ?_)
      refine dn_ret0 rfl rfl rfl rfl ?_
      exact hQ
    · exact absurd (nI_le (a := 6) (by omega) (by omega)) c
  | succ n ih =>
    intro t acc q o hq ht hQ
    show tkDn tm_6 (7, [some (.inr (.inr (1, b, 0))), some (.inl (nI m)), some (.inl (nI t)), some (.inl acc), some (.inl (nI q)), o], [], (I, J, R)) _
    refine dn_run 2 (show tkDn tm_6 (11, [some (.inr (.inr (1, b, 0))), some (.inl (nI m)), some (.inl (nI t)), some (.inl acc), some (.inl (nI q)), o], [.inl 6, .inl (nI q)], (I, J, R)) _ from ?_)
    refine dn_if rfl rfl rfl (fun (c : 6 ≤ (nI q)) => ?_) (fun (c : ¬ 6 ≤ (nI q)) => ?_)
    · exact absurd c (nI_ge (b := 6) (by omega) (by omega))
    · show tkDn tm_6 (14, [some (.inr (.inr (1, b, 0))), some (.inl (nI m)), some (.inl (nI t)), some (.inl acc), some (.inl (nI q)), o], [], (I, J, R)) _
      refine dn_run 2 (show tkDn tm_6 (16, [some (.inr (.inr (1, b, 0))), some (.inl (nI m)), some (.inl (nI t)), some (.inl acc), some (.inl (nI q)), o], [.inl (nI t), .inr (.inr (1, b, 0))], (I, J, R)) _ from ?_)
      refine dn_call rfl rfl rfl rfl rfl (sn_giftInto hP w (by omega) ?_)
      show tkDn tm_6 (19, [some (.inr (.inr (1, b, 0))), some (.inl (nI m)), some (.inl (nI t)), some (.inl acc), some (.inl (nI q)), o], [.inl (if gt S t < sG S then nI (gt S t) else -9)], (I, J, R)) _
      refine dn_run 3 (show tkDn tm_6 (25, [some (.inr (.inr (1, b, 0))), some (.inl (nI m)), some (.inl (nI t)), some (.inl acc), some (.inl (nI q)), some (.inl (if gt S t < sG S then nI (gt S t) else -9))], [.inl (-9), .inl (if gt S t < sG S then nI (gt S t) else -9)], (I, J, R)) _ from ?_)
      refine dn_if rfl rfl rfl (fun (c2 : ¬ (if gt S t < sG S then nI (gt S t) else -9) = (-9)) => ?_) (fun (c2 : (if gt S t < sG S then nI (gt S t) else -9) = (-9)) => ?_)
      · show tkDn tm_6 (30, [some (.inr (.inr (1, b, 0))), some (.inl (nI m)), some (.inl (nI t)), some (.inl acc), some (.inl (nI q)), some (.inl (if gt S t < sG S then nI (gt S t) else -9))], [], (I, J, R)) _
        have hg : gt S t < sG S := by by_cases z : gt S t < sG S; exact z; exact absurd (if_neg z) c2
        rw [if_pos hg]
        show tkDn tm_6 (30, [some (.inr (.inr (1, b, 0))), some (.inl (nI m)), some (.inl (nI t)), some (.inl acc), some (.inl (nI q)), some (.inl (nI (gt S t)))], [], (I, J, R)) _
        refine dn_run 8 (show tkDn tm_6 (40, [some (.inr (.inr (1, b, 0))), some (.inl (nI m)), some (.inl (nI t)), some (.inl (acc ||| (1 <<< ((nI (gt S t)) &&& 31)))), some (.inl (nI q)), some (.inl (nI (gt S t)))], [.inl (nI (gt S t)), .inr (.inr (1, b, 0))], (I, J, R)) _ from ?_)
        refine dn_call rfl rfl rfl rfl rfl (sN_giftFrom hP w hg ?_)
        show tkDn tm_6 (43, [some (.inr (.inr (1, b, 0))), some (.inl (nI m)), some (.inl (nI t)), some (.inl (acc ||| (1 <<< ((nI (gt S t)) &&& 31)))), some (.inl (nI q)), some (.inl (nI (gt S t)))], [.inl (nI (sf S (sgl S (gt S t))))], (I, J, R)) _
        refine dn_run 3 (show tkDn tm_6 (7, [some (.inr (.inr (1, b, 0))), some (.inl (nI m)), some (.inl (nI (sf S (sgl S (gt S t))))), some (.inl (acc ||| (1 <<< ((nI (gt S t)) &&& 31)))), some (.inl ((nI q) + 1)), some (.inl (nI (gt S t)))], [], (I, J, R)) _ from ?_)
        rw [nI_1]
        rw [show gbF S (n + 1) t acc = gbF S n (sf S (sgl S (gt S t))) (acc ||| (1 <<< (nI (gt S t) &&& 31))) from if_pos hg] at hQ
        exact ih _ _ (q + 1) _ (by omega) (w.fM (w.gl hg)) hQ
      · show tkDn tm_6 (28, [some (.inr (.inr (1, b, 0))), some (.inl (nI m)), some (.inl (nI t)), some (.inl acc), some (.inl (nI q)), some (.inl (if gt S t < sG S then nI (gt S t) else -9))], [], (I, J, R)) _
        refine dn_run 1 (show tkDn tm_6 (29, [some (.inr (.inr (1, b, 0))), some (.inl (nI m)), some (.inl (nI t)), some (.inl acc), some (.inl (nI q)), some (.inl (if gt S t < sG S then nI (gt S t) else -9))], [.inl acc], (I, J, R)) _ from ?_)
        refine dn_ret0 rfl rfl rfl rfl ?_
        have hg : ¬ gt S t < sG S := fun z => by rw [if_pos z] at c2; exact nI_n9 (by omega) c2
        rw [show gbF S (n + 1) t acc = acc from if_neg hg] at hQ
        exact hQ
theorem sc_giftsBehind {I : tkI} {J : tkJ} {R : Nat → Nat} {Q : tkQ} {b : Nat} {S : tkS} (hP : NetP (I 1 b) S) (w : WF S) {m : Nat} (hm : m < sM S) (hQ : Q (some (.inl (gbF S 6 m 0))) (I, J, R)) : tkDn tm_6 (0, [some (.inr (.inr (1, b, 0))), some (.inl (nI m)), none, none, none, none], [], (I, J, R)) Q := by
  refine dn_run 6 (show tkDn tm_6 (7, [some (.inr (.inr (1, b, 0))), some (.inl (nI m)), some (.inl (nI m)), some (.inl 0), some (.inl 0), none], [], (I, J, R)) _ from ?_)
  exact sc_giftsBehind_loop hP w 6 m 0 0 none rfl hm hQ
theorem sc_sumOfLengths_loop {I : tkI} {J : tkJ} {R : Nat → Nat} {Q : tkQ} {b : Nat} {S : tkS} (hP : NetP (I 1 b) S) (w : WF S) {mask k : Int32} (hQ : Q (some (.inr (.inl (slS S mask k (sG S))))) (I, J, R)) : ∀ n g, g + n = sG S → tkDn tm_7 (5, [some (.inr (.inr (1, b, 0))), some (.inl mask), some (.inl k), some (.inr (.inl (slS S mask k g))), none, some (.inl (nI g))], [], (I, J, R)) Q := by
  have hM16 := w.1
  have hL60 := w.2.1
  have hG6 := w.2.2.1
  intro n
  induction n with
  | zero =>
    intro g hg
    show tkDn tm_7 (5, [some (.inr (.inr (1, b, 0))), some (.inl mask), some (.inl k), some (.inr (.inl (slS S mask k g))), none, some (.inl (nI g))], [], (I, J, R)) _
    refine dn_run 2 (show tkDn tm_7 (8, [some (.inr (.inr (1, b, 0))), some (.inl mask), some (.inl k), some (.inr (.inl (slS S mask k g))), none, some (.inl (nI g))], [.inr (.inr (1, b, 0)), .inl (nI g)], (I, J, R)) _ from ?_)
    refine dn_call rfl rfl rfl rfl rfl (sN_giftCount hP ?_)
    show tkDn tm_7 (11, [some (.inr (.inr (1, b, 0))), some (.inl mask), some (.inl k), some (.inr (.inl (slS S mask k g))), none, some (.inl (nI g))], [.inl (nI (sG S)), .inl (nI g)], (I, J, R)) _
    refine dn_if rfl rfl rfl (fun (c : (nI (sG S)) ≤ (nI g)) => ?_) (fun (c : ¬ (nI (sG S)) ≤ (nI g)) => ?_)
    · show tkDn tm_7 (41, [some (.inr (.inr (1, b, 0))), some (.inl mask), some (.inl k), some (.inr (.inl (slS S mask k g))), none, some (.inl (nI g))], [], (I, J, R)) _
      refine dn_run 1 (show tkDn tm_7 (42, [some (.inr (.inr (1, b, 0))), some (.inl mask), some (.inl k), some (.inr (.inl (slS S mask k g))), none, some (.inl (nI g))], [.inr (.inl (slS S mask k g))], (I, J, R)) _ from ?_)
      refine dn_ret0 rfl rfl rfl rfl ?_
      rw [show g = sG S by omega]
      exact hQ
    · exact absurd (nI_le (by omega) (by omega)) c
  | succ n ih =>
    intro g hg
    show tkDn tm_7 (5, [some (.inr (.inr (1, b, 0))), some (.inl mask), some (.inl k), some (.inr (.inl (slS S mask k g))), none, some (.inl (nI g))], [], (I, J, R)) _
    refine dn_run 2 (show tkDn tm_7 (8, [some (.inr (.inr (1, b, 0))), some (.inl mask), some (.inl k), some (.inr (.inl (slS S mask k g))), none, some (.inl (nI g))], [.inr (.inr (1, b, 0)), .inl (nI g)], (I, J, R)) _ from ?_)
    refine dn_call rfl rfl rfl rfl rfl (sN_giftCount hP ?_)
    show tkDn tm_7 (11, [some (.inr (.inr (1, b, 0))), some (.inl mask), some (.inl k), some (.inr (.inl (slS S mask k g))), none, some (.inl (nI g))], [.inl (nI (sG S)), .inl (nI g)], (I, J, R)) _
    refine dn_if rfl rfl rfl (fun (c : (nI (sG S)) ≤ (nI g)) => ?_) (fun (c : ¬ (nI (sG S)) ≤ (nI g)) => ?_)
    · exact absurd c (nI_ge (by omega) (by omega))
    · show tkDn tm_7 (14, [some (.inr (.inr (1, b, 0))), some (.inl mask), some (.inl k), some (.inr (.inl (slS S mask k g))), none, some (.inl (nI g))], [], (I, J, R)) _
      refine dn_run 6 (show tkDn tm_7 (21, [some (.inr (.inr (1, b, 0))), some (.inl mask), some (.inl k), some (.inr (.inl (slS S mask k g))), none, some (.inl (nI g))], [.inl 1, .inl ((mask >>> ((nI g) &&& 31)) &&& 1)], (I, J, R)) _ from ?_)
      refine dn_if rfl rfl rfl (fun (c2 : ¬ ((mask >>> ((nI g) &&& 31)) &&& 1) = 1) => ?_) (fun (c2 : ((mask >>> ((nI g) &&& 31)) &&& 1) = 1) => ?_)
      · show tkDn tm_7 (35, [some (.inr (.inr (1, b, 0))), some (.inl mask), some (.inl k), some (.inr (.inl (slS S mask k g))), none, some (.inl (nI g))], [], (I, J, R)) _
        refine dn_run 2 (show tkDn tm_7 (5, [some (.inr (.inr (1, b, 0))), some (.inl mask), some (.inl k), some (.inr (.inl (slS S mask k g))), none, some (.inl ((nI g) + 1))], [], (I, J, R)) _ from ?_)
        rw [nI_1]
        rw [show slS S mask k g = slS S mask k (g + 1) from (if_neg c2).symm]
        exact ih (g + 1) (by omega)
      · show tkDn tm_7 (24, [some (.inr (.inr (1, b, 0))), some (.inl mask), some (.inl k), some (.inr (.inl (slS S mask k g))), none, some (.inl (nI g))], [], (I, J, R)) _
        refine dn_run 4 (show tkDn tm_7 (29, [some (.inr (.inr (1, b, 0))), some (.inl mask), some (.inl k), some (.inr (.inl (slS S mask k g))), none, some (.inl (nI g))], [.inl k, .inl (nI g), .inr (.inr (1, b, 0)), .inr (.inl (slS S mask k g))], (I, J, R)) _ from ?_)
        refine dn_call rfl rfl rfl rfl rfl (sn_chosenLength hP w (g := g) (by omega) ?_)
        show tkDn tm_7 (32, [some (.inr (.inr (1, b, 0))), some (.inl mask), some (.inl k), some (.inr (.inl (slS S mask k g))), none, some (.inl (nI g))], [.inl (chL S k g), .inr (.inl (slS S mask k g))], (I, J, R)) _
        refine dn_run 5 (show tkDn tm_7 (5, [some (.inr (.inr (1, b, 0))), some (.inl mask), some (.inl k), some (.inr (.inl ((slS S mask k g) + (((chL S k g) : Int32).toInt64)))), none, some (.inl ((nI g) + 1))], [], (I, J, R)) _ from ?_)
        rw [nI_1]
        rw [show slS S mask k g + (chL S k g).toInt64 = slS S mask k (g + 1) from (if_pos c2).symm]
        exact ih (g + 1) (by omega)
theorem sc_sumOfLengths {I : tkI} {J : tkJ} {R : Nat → Nat} {Q : tkQ} {b : Nat} {S : tkS} (hP : NetP (I 1 b) S) (w : WF S) {mask k : Int32} (hQ : Q (some (.inr (.inl (slS S mask k (sG S))))) (I, J, R)) : tkDn tm_7 (0, [some (.inr (.inr (1, b, 0))), some (.inl mask), some (.inl k), none, none, none], [], (I, J, R)) Q := by
  refine dn_run 4 (show tkDn tm_7 (5, [some (.inr (.inr (1, b, 0))), some (.inl mask), some (.inl k), some (.inr (.inl 0)), none, some (.inl 0)], [], (I, J, R)) _ from ?_)
  exact sc_sumOfLengths_loop hP w hQ (sG S) 0 (Nat.zero_add _)
theorem sc_putWorstWish {I : tkI} {J : tkJ} {R : Nat → Nat} {Q : tkQ} {b : Nat} {S : tkS} (hP : NetP (I 1 b) S) (w : WF S) {d : tkD} {l : Nat} (hl : l < sL S) (hr : RowP 16 (J 0 0 1) d) (hQ : ∀ r, RowP 16 r (wwM S d l) → Q none (I, tk_so J 0 0 (tk_u1 (J 0 0) 1 r), R)) : tkDn tm_4 (0, [some (.inr (.inr (0, 0, 0))), some (.inr (.inr (1, b, 0))), some (.inl (nI l)), none, none, none, none, none, none, none, none, none, none], [], (I, J, R)) Q := by
  have hM16 := w.1
  have hL60 := w.2.1
  have hG6 := w.2.2.1
  have hf := w.fM hl
  have he := w.eM hl
  have hra := rtF_lt w 6 _ hf
  have hrb := rtF_lt w 6 _ he
  refine dn_run 2 (show tkDn tm_4 (2, [some (.inr (.inr (0, 0, 0))), some (.inr (.inr (1, b, 0))), some (.inl (nI l)), none, none, none, none, none, none, none, none, none, none], [.inl (nI l), .inr (.inr (1, b, 0))], (I, J, R)) _ from ?_)
  refine dn_call rfl rfl rfl rfl rfl (sN_linkFrom hP w hl ?_)
  show tkDn tm_4 (5, [some (.inr (.inr (0, 0, 0))), some (.inr (.inr (1, b, 0))), some (.inl (nI l)), none, none, none, none, none, none, none, none, none, none], [.inl (nI (sf S l))], (I, J, R)) _
  refine dn_run 3 (show tkDn tm_4 (8, [some (.inr (.inr (0, 0, 0))), some (.inr (.inr (1, b, 0))), some (.inl (nI l)), some (.inl (nI (sf S l))), none, none, none, none, none, none, none, none, none], [.inl (nI l), .inr (.inr (1, b, 0))], (I, J, R)) _ from ?_)
  refine dn_call rfl rfl rfl rfl rfl (sN_linkTo hP w hl ?_)
  show tkDn tm_4 (11, [some (.inr (.inr (0, 0, 0))), some (.inr (.inr (1, b, 0))), some (.inl (nI l)), some (.inl (nI (sf S l))), none, none, none, none, none, none, none, none, none], [.inl (nI (se S l))], (I, J, R)) _
  refine dn_run 3 (show tkDn tm_4 (15, [some (.inr (.inr (0, 0, 0))), some (.inr (.inr (1, b, 0))), some (.inl (nI l)), some (.inl (nI (sf S l))), some (.inl (nI (se S l))), none, none, none, none, none, none, none, none], [.inl (nI (sf S l)), .inr (.inr (1, b, 0))], (I, J, R)) _ from ?_)
  refine dn_call rfl rfl rfl rfl rfl (sc_giftsBehind hP w hf ?_)
  show tkDn tm_4 (18, [some (.inr (.inr (0, 0, 0))), some (.inr (.inr (1, b, 0))), some (.inl (nI l)), some (.inl (nI (sf S l))), some (.inl (nI (se S l))), none, none, none, none, none, none, none, none], [.inl (gbF S 6 (sf S l) 0)], (I, J, R)) _
  refine dn_run 3 (show tkDn tm_4 (23, [some (.inr (.inr (0, 0, 0))), some (.inr (.inr (1, b, 0))), some (.inl (nI l)), some (.inl (nI (sf S l))), some (.inl (nI (se S l))), some (.inl (gbF S 6 (sf S l) 0)), none, none, none, none, none, none, none], [.inl (nI (se S l)), .inr (.inr (1, b, 0))], (I, J, R)) _ from ?_)
  refine dn_call rfl rfl rfl rfl rfl (sc_giftsBehind hP w he ?_)
  show tkDn tm_4 (26, [some (.inr (.inr (0, 0, 0))), some (.inr (.inr (1, b, 0))), some (.inl (nI l)), some (.inl (nI (sf S l))), some (.inl (nI (se S l))), some (.inl (gbF S 6 (sf S l) 0)), none, none, none, none, none, none, none], [.inl (gbF S 6 (se S l) 0)], (I, J, R)) _
  refine dn_run 16 (show tkDn tm_4 (51, [some (.inr (.inr (0, 0, 0))), some (.inr (.inr (1, b, 0))), some (.inl (nI l)), some (.inl (nI (sf S l))), some (.inl (nI (se S l))), some (.inl (gbF S 6 (sf S l) 0)), some (.inl (gbF S 6 (se S l) 0)), some (.inl ((gbF S 6 (sf S l) 0) &&& ((gbF S 6 (se S l) 0) ^^^ (-1)))), some (.inl ((gbF S 6 (se S l) 0) &&& ((gbF S 6 (sf S l) 0) ^^^ (-1)))), none, none, none, none], [.inl 63, .inl ((gbF S 6 (se S l) 0) &&& ((gbF S 6 (sf S l) 0) ^^^ (-1))), .inr (.inr (1, b, 0))], (I, J, R)) _ from ?_)
  refine dn_call rfl rfl rfl rfl rfl (sc_sumOfLengths hP w ?_)
  show tkDn tm_4 (54, [some (.inr (.inr (0, 0, 0))), some (.inr (.inr (1, b, 0))), some (.inl (nI l)), some (.inl (nI (sf S l))), some (.inl (nI (se S l))), some (.inl (gbF S 6 (sf S l) 0)), some (.inl (gbF S 6 (se S l) 0)), some (.inl ((gbF S 6 (sf S l) 0) &&& ((gbF S 6 (se S l) 0) ^^^ (-1)))), some (.inl ((gbF S 6 (se S l) 0) &&& ((gbF S 6 (sf S l) 0) ^^^ (-1)))), none, none, none, none], [.inr (.inl (slS S (gbF S 6 (se S l) 0 &&& (gbF S 6 (sf S l) 0 ^^^ -1)) 63 (sG S)))], (I, J, R)) _
  refine dn_run 3 (show tkDn tm_4 (58, [some (.inr (.inr (0, 0, 0))), some (.inr (.inr (1, b, 0))), some (.inl (nI l)), some (.inl (nI (sf S l))), some (.inl (nI (se S l))), some (.inl (gbF S 6 (sf S l) 0)), some (.inl (gbF S 6 (se S l) 0)), some (.inl ((gbF S 6 (sf S l) 0) &&& ((gbF S 6 (se S l) 0) ^^^ (-1)))), some (.inl ((gbF S 6 (se S l) 0) &&& ((gbF S 6 (sf S l) 0) ^^^ (-1)))), none, none, none, none], [.inl 0, .inl ((gbF S 6 (sf S l) 0) &&& ((gbF S 6 (se S l) 0) ^^^ (-1))), .inr (.inr (1, b, 0)), .inr (.inl (slS S (gbF S 6 (se S l) 0 &&& (gbF S 6 (sf S l) 0 ^^^ -1)) 63 (sG S)))], (I, J, R)) _ from ?_)
  refine dn_call rfl rfl rfl rfl rfl (sc_sumOfLengths hP w ?_)
  show tkDn tm_4 (61, [some (.inr (.inr (0, 0, 0))), some (.inr (.inr (1, b, 0))), some (.inl (nI l)), some (.inl (nI (sf S l))), some (.inl (nI (se S l))), some (.inl (gbF S 6 (sf S l) 0)), some (.inl (gbF S 6 (se S l) 0)), some (.inl ((gbF S 6 (sf S l) 0) &&& ((gbF S 6 (se S l) 0) ^^^ (-1)))), some (.inl ((gbF S 6 (se S l) 0) &&& ((gbF S 6 (sf S l) 0) ^^^ (-1)))), none, none, none, none], [.inr (.inl (slS S (gbF S 6 (sf S l) 0 &&& (gbF S 6 (se S l) 0 ^^^ -1)) 0 (sG S))), .inr (.inl (slS S (gbF S 6 (se S l) 0 &&& (gbF S 6 (sf S l) 0 ^^^ -1)) 63 (sG S)))], (I, J, R)) _
  refine dn_run 5 (show tkDn tm_4 (68, [some (.inr (.inr (0, 0, 0))), some (.inr (.inr (1, b, 0))), some (.inl (nI l)), some (.inl (nI (sf S l))), some (.inl (nI (se S l))), some (.inl (gbF S 6 (sf S l) 0)), some (.inl (gbF S 6 (se S l) 0)), some (.inl ((gbF S 6 (sf S l) 0) &&& ((gbF S 6 (se S l) 0) ^^^ (-1)))), some (.inl ((gbF S 6 (se S l) 0) &&& ((gbF S 6 (sf S l) 0) ^^^ (-1)))), some (.inr (.inl ((slS S (gbF S 6 (se S l) 0 &&& (gbF S 6 (sf S l) 0 ^^^ -1)) 63 (sG S)) - (slS S (gbF S 6 (sf S l) 0 &&& (gbF S 6 (se S l) 0 ^^^ -1)) 0 (sG S))))), none, none, none], [.inl 0, .inl ((gbF S 6 (se S l) 0) &&& ((gbF S 6 (sf S l) 0) ^^^ (-1))), .inr (.inr (1, b, 0))], (I, J, R)) _ from ?_)
  refine dn_call rfl rfl rfl rfl rfl (sc_sumOfLengths hP w ?_)
  show tkDn tm_4 (71, [some (.inr (.inr (0, 0, 0))), some (.inr (.inr (1, b, 0))), some (.inl (nI l)), some (.inl (nI (sf S l))), some (.inl (nI (se S l))), some (.inl (gbF S 6 (sf S l) 0)), some (.inl (gbF S 6 (se S l) 0)), some (.inl ((gbF S 6 (sf S l) 0) &&& ((gbF S 6 (se S l) 0) ^^^ (-1)))), some (.inl ((gbF S 6 (se S l) 0) &&& ((gbF S 6 (sf S l) 0) ^^^ (-1)))), some (.inr (.inl ((slS S (gbF S 6 (se S l) 0 &&& (gbF S 6 (sf S l) 0 ^^^ -1)) 63 (sG S)) - (slS S (gbF S 6 (sf S l) 0 &&& (gbF S 6 (se S l) 0 ^^^ -1)) 0 (sG S))))), none, none, none], [.inr (.inl (slS S (gbF S 6 (se S l) 0 &&& (gbF S 6 (sf S l) 0 ^^^ -1)) 0 (sG S)))], (I, J, R)) _
  refine dn_run 3 (show tkDn tm_4 (76, [some (.inr (.inr (0, 0, 0))), some (.inr (.inr (1, b, 0))), some (.inl (nI l)), some (.inl (nI (sf S l))), some (.inl (nI (se S l))), some (.inl (gbF S 6 (sf S l) 0)), some (.inl (gbF S 6 (se S l) 0)), some (.inl ((gbF S 6 (sf S l) 0) &&& ((gbF S 6 (se S l) 0) ^^^ (-1)))), some (.inl ((gbF S 6 (se S l) 0) &&& ((gbF S 6 (sf S l) 0) ^^^ (-1)))), some (.inr (.inl ((slS S (gbF S 6 (se S l) 0 &&& (gbF S 6 (sf S l) 0 ^^^ -1)) 63 (sG S)) - (slS S (gbF S 6 (sf S l) 0 &&& (gbF S 6 (se S l) 0 ^^^ -1)) 0 (sG S))))), none, none, none], [.inl 63, .inl ((gbF S 6 (sf S l) 0) &&& ((gbF S 6 (se S l) 0) ^^^ (-1))), .inr (.inr (1, b, 0)), .inr (.inl (slS S (gbF S 6 (se S l) 0 &&& (gbF S 6 (sf S l) 0 ^^^ -1)) 0 (sG S)))], (I, J, R)) _ from ?_)
  refine dn_call rfl rfl rfl rfl rfl (sc_sumOfLengths hP w ?_)
  show tkDn tm_4 (79, [some (.inr (.inr (0, 0, 0))), some (.inr (.inr (1, b, 0))), some (.inl (nI l)), some (.inl (nI (sf S l))), some (.inl (nI (se S l))), some (.inl (gbF S 6 (sf S l) 0)), some (.inl (gbF S 6 (se S l) 0)), some (.inl ((gbF S 6 (sf S l) 0) &&& ((gbF S 6 (se S l) 0) ^^^ (-1)))), some (.inl ((gbF S 6 (se S l) 0) &&& ((gbF S 6 (sf S l) 0) ^^^ (-1)))), some (.inr (.inl ((slS S (gbF S 6 (se S l) 0 &&& (gbF S 6 (sf S l) 0 ^^^ -1)) 63 (sG S)) - (slS S (gbF S 6 (sf S l) 0 &&& (gbF S 6 (se S l) 0 ^^^ -1)) 0 (sG S))))), none, none, none], [.inr (.inl (slS S (gbF S 6 (sf S l) 0 &&& (gbF S 6 (se S l) 0 ^^^ -1)) 63 (sG S))), .inr (.inl (slS S (gbF S 6 (se S l) 0 &&& (gbF S 6 (sf S l) 0 ^^^ -1)) 0 (sG S)))], (I, J, R)) _
  refine dn_run 6 (show tkDn tm_4 (88, [some (.inr (.inr (0, 0, 0))), some (.inr (.inr (1, b, 0))), some (.inl (nI l)), some (.inl (nI (sf S l))), some (.inl (nI (se S l))), some (.inl (gbF S 6 (sf S l) 0)), some (.inl (gbF S 6 (se S l) 0)), some (.inl ((gbF S 6 (sf S l) 0) &&& ((gbF S 6 (se S l) 0) ^^^ (-1)))), some (.inl ((gbF S 6 (se S l) 0) &&& ((gbF S 6 (sf S l) 0) ^^^ (-1)))), some (.inr (.inl ((slS S (gbF S 6 (se S l) 0 &&& (gbF S 6 (sf S l) 0 ^^^ -1)) 63 (sG S)) - (slS S (gbF S 6 (sf S l) 0 &&& (gbF S 6 (se S l) 0 ^^^ -1)) 0 (sG S))))), none, some (.inr (.inl ((slS S (gbF S 6 (se S l) 0 &&& (gbF S 6 (sf S l) 0 ^^^ -1)) 0 (sG S)) - (slS S (gbF S 6 (sf S l) 0 &&& (gbF S 6 (se S l) 0 ^^^ -1)) 63 (sG S))))), none], [.inl (nI (sf S l)), .inr (.inr (1, b, 0)), .inr (.inr (0, 0, 1))], (I, J, R)) _ from ?_)
  refine dn_call rfl rfl rfl rfl rfl (sc_rootOf hP w hf ?_)
  show tkDn tm_4 (91, [some (.inr (.inr (0, 0, 0))), some (.inr (.inr (1, b, 0))), some (.inl (nI l)), some (.inl (nI (sf S l))), some (.inl (nI (se S l))), some (.inl (gbF S 6 (sf S l) 0)), some (.inl (gbF S 6 (se S l) 0)), some (.inl ((gbF S 6 (sf S l) 0) &&& ((gbF S 6 (se S l) 0) ^^^ (-1)))), some (.inl ((gbF S 6 (se S l) 0) &&& ((gbF S 6 (sf S l) 0) ^^^ (-1)))), some (.inr (.inl ((slS S (gbF S 6 (se S l) 0 &&& (gbF S 6 (sf S l) 0 ^^^ -1)) 63 (sG S)) - (slS S (gbF S 6 (sf S l) 0 &&& (gbF S 6 (se S l) 0 ^^^ -1)) 0 (sG S))))), none, some (.inr (.inl ((slS S (gbF S 6 (se S l) 0 &&& (gbF S 6 (sf S l) 0 ^^^ -1)) 0 (sG S)) - (slS S (gbF S 6 (sf S l) 0 &&& (gbF S 6 (se S l) 0 ^^^ -1)) 63 (sG S))))), none], [.inl (nI (rtF S 6 (sf S l))), .inr (.inr (0, 0, 1))], (I, J, R)) _
  refine dn_run 2 (show tkDn tm_4 (94, [some (.inr (.inr (0, 0, 0))), some (.inr (.inr (1, b, 0))), some (.inl (nI l)), some (.inl (nI (sf S l))), some (.inl (nI (se S l))), some (.inl (gbF S 6 (sf S l) 0)), some (.inl (gbF S 6 (se S l) 0)), some (.inl ((gbF S 6 (sf S l) 0) &&& ((gbF S 6 (se S l) 0) ^^^ (-1)))), some (.inl ((gbF S 6 (se S l) 0) &&& ((gbF S 6 (sf S l) 0) ^^^ (-1)))), some (.inr (.inl ((slS S (gbF S 6 (se S l) 0 &&& (gbF S 6 (sf S l) 0 ^^^ -1)) 63 (sG S)) - (slS S (gbF S 6 (sf S l) 0 &&& (gbF S 6 (se S l) 0 ^^^ -1)) 0 (sG S))))), none, some (.inr (.inl ((slS S (gbF S 6 (se S l) 0 &&& (gbF S 6 (sf S l) 0 ^^^ -1)) 0 (sG S)) - (slS S (gbF S 6 (sf S l) 0 &&& (gbF S 6 (se S l) 0 ^^^ -1)) 63 (sG S))))), none], [.inl (nI (se S l)), .inr (.inr (1, b, 0)), .inl (nI (rtF S 6 (sf S l))), .inr (.inr (0, 0, 1))], (I, J, R)) _ from ?_)
  refine dn_call rfl rfl rfl rfl rfl (sc_rootOf hP w he ?_)
  show tkDn tm_4 (97, [some (.inr (.inr (0, 0, 0))), some (.inr (.inr (1, b, 0))), some (.inl (nI l)), some (.inl (nI (sf S l))), some (.inl (nI (se S l))), some (.inl (gbF S 6 (sf S l) 0)), some (.inl (gbF S 6 (se S l) 0)), some (.inl ((gbF S 6 (sf S l) 0) &&& ((gbF S 6 (se S l) 0) ^^^ (-1)))), some (.inl ((gbF S 6 (se S l) 0) &&& ((gbF S 6 (sf S l) 0) ^^^ (-1)))), some (.inr (.inl ((slS S (gbF S 6 (se S l) 0 &&& (gbF S 6 (sf S l) 0 ^^^ -1)) 63 (sG S)) - (slS S (gbF S 6 (sf S l) 0 &&& (gbF S 6 (se S l) 0 ^^^ -1)) 0 (sG S))))), none, some (.inr (.inl ((slS S (gbF S 6 (se S l) 0 &&& (gbF S 6 (sf S l) 0 ^^^ -1)) 0 (sG S)) - (slS S (gbF S 6 (sf S l) 0 &&& (gbF S 6 (se S l) 0 ^^^ -1)) 63 (sG S))))), none], [.inl (nI (rtF S 6 (se S l))), .inl (nI (rtF S 6 (sf S l))), .inr (.inr (0, 0, 1))], (I, J, R)) _
  refine dn_run 2 (show tkDn tm_4 (99, [some (.inr (.inr (0, 0, 0))), some (.inr (.inr (1, b, 0))), some (.inl (nI l)), some (.inl (nI (sf S l))), some (.inl (nI (se S l))), some (.inl (gbF S 6 (sf S l) 0)), some (.inl (gbF S 6 (se S l) 0)), some (.inl ((gbF S 6 (sf S l) 0) &&& ((gbF S 6 (se S l) 0) ^^^ (-1)))), some (.inl ((gbF S 6 (se S l) 0) &&& ((gbF S 6 (sf S l) 0) ^^^ (-1)))), some (.inr (.inl ((slS S (gbF S 6 (se S l) 0 &&& (gbF S 6 (sf S l) 0 ^^^ -1)) 63 (sG S)) - (slS S (gbF S 6 (sf S l) 0 &&& (gbF S 6 (se S l) 0 ^^^ -1)) 0 (sG S))))), none, some (.inr (.inl ((slS S (gbF S 6 (se S l) 0 &&& (gbF S 6 (sf S l) 0 ^^^ -1)) 0 (sG S)) - (slS S (gbF S 6 (sf S l) 0 &&& (gbF S 6 (se S l) 0 ^^^ -1)) 63 (sG S))))), none], [.inl (nI l), .inr (.inr (1, b, 0)), .inl (nI (rtF S 6 (se S l))), .inl (nI (rtF S 6 (sf S l))), .inr (.inr (0, 0, 1))], (I, J, R)) _ from ?_)
  refine dn_call rfl rfl rfl rfl rfl (sN_linkLow hP w hl ?_)
  show tkDn tm_4 (102, [some (.inr (.inr (0, 0, 0))), some (.inr (.inr (1, b, 0))), some (.inl (nI l)), some (.inl (nI (sf S l))), some (.inl (nI (se S l))), some (.inl (gbF S 6 (sf S l) 0)), some (.inl (gbF S 6 (se S l) 0)), some (.inl ((gbF S 6 (sf S l) 0) &&& ((gbF S 6 (se S l) 0) ^^^ (-1)))), some (.inl ((gbF S 6 (se S l) 0) &&& ((gbF S 6 (sf S l) 0) ^^^ (-1)))), some (.inr (.inl ((slS S (gbF S 6 (se S l) 0 &&& (gbF S 6 (sf S l) 0 ^^^ -1)) 63 (sG S)) - (slS S (gbF S 6 (sf S l) 0 &&& (gbF S 6 (se S l) 0 ^^^ -1)) 0 (sG S))))), none, some (.inr (.inl ((slS S (gbF S 6 (se S l) 0 &&& (gbF S 6 (sf S l) 0 ^^^ -1)) 0 (sG S)) - (slS S (gbF S 6 (sf S l) 0 &&& (gbF S 6 (se S l) 0 ^^^ -1)) 63 (sG S))))), none], [.inl (slo S l), .inl (nI (rtF S 6 (se S l))), .inl (nI (rtF S 6 (sf S l))), .inr (.inr (0, 0, 1))], (I, J, R)) _
  refine dn_run 5 (show tkDn tm_4 (108, [some (.inr (.inr (0, 0, 0))), some (.inr (.inr (1, b, 0))), some (.inl (nI l)), some (.inl (nI (sf S l))), some (.inl (nI (se S l))), some (.inl (gbF S 6 (sf S l) 0)), some (.inl (gbF S 6 (se S l) 0)), some (.inl ((gbF S 6 (sf S l) 0) &&& ((gbF S 6 (se S l) 0) ^^^ (-1)))), some (.inl ((gbF S 6 (se S l) 0) &&& ((gbF S 6 (sf S l) 0) ^^^ (-1)))), some (.inr (.inl ((slS S (gbF S 6 (se S l) 0 &&& (gbF S 6 (sf S l) 0 ^^^ -1)) 63 (sG S)) - (slS S (gbF S 6 (sf S l) 0 &&& (gbF S 6 (se S l) 0 ^^^ -1)) 0 (sG S))))), none, some (.inr (.inl ((slS S (gbF S 6 (se S l) 0 &&& (gbF S 6 (sf S l) 0 ^^^ -1)) 0 (sG S)) - (slS S (gbF S 6 (sf S l) 0 &&& (gbF S 6 (se S l) 0 ^^^ -1)) 63 (sG S))))), none], [.inl (nI l), .inr (.inr (1, b, 0)), .inr (.inl ((((slo S l) : Int32).toInt64) - ((slS S (gbF S 6 (se S l) 0 &&& (gbF S 6 (sf S l) 0 ^^^ -1)) 0 (sG S)) - (slS S (gbF S 6 (sf S l) 0 &&& (gbF S 6 (se S l) 0 ^^^ -1)) 63 (sG S))))), .inl (nI (rtF S 6 (se S l))), .inl (nI (rtF S 6 (sf S l))), .inr (.inr (0, 0, 1))], (I, J, R)) _ from ?_)
  refine dn_call rfl rfl rfl rfl rfl (sN_linkHigh hP w hl ?_)
  show tkDn tm_4 (111, [some (.inr (.inr (0, 0, 0))), some (.inr (.inr (1, b, 0))), some (.inl (nI l)), some (.inl (nI (sf S l))), some (.inl (nI (se S l))), some (.inl (gbF S 6 (sf S l) 0)), some (.inl (gbF S 6 (se S l) 0)), some (.inl ((gbF S 6 (sf S l) 0) &&& ((gbF S 6 (se S l) 0) ^^^ (-1)))), some (.inl ((gbF S 6 (se S l) 0) &&& ((gbF S 6 (sf S l) 0) ^^^ (-1)))), some (.inr (.inl ((slS S (gbF S 6 (se S l) 0 &&& (gbF S 6 (sf S l) 0 ^^^ -1)) 63 (sG S)) - (slS S (gbF S 6 (sf S l) 0 &&& (gbF S 6 (se S l) 0 ^^^ -1)) 0 (sG S))))), none, some (.inr (.inl ((slS S (gbF S 6 (se S l) 0 &&& (gbF S 6 (sf S l) 0 ^^^ -1)) 0 (sG S)) - (slS S (gbF S 6 (sf S l) 0 &&& (gbF S 6 (se S l) 0 ^^^ -1)) 63 (sG S))))), none], [.inl (shi S l), .inr (.inl ((((slo S l) : Int32).toInt64) - ((slS S (gbF S 6 (se S l) 0 &&& (gbF S 6 (sf S l) 0 ^^^ -1)) 0 (sG S)) - (slS S (gbF S 6 (sf S l) 0 &&& (gbF S 6 (se S l) 0 ^^^ -1)) 63 (sG S))))), .inl (nI (rtF S 6 (se S l))), .inl (nI (rtF S 6 (sf S l))), .inr (.inr (0, 0, 1))], (I, J, R)) _
  refine dn_run 3 (show tkDn tm_4 (115, [some (.inr (.inr (0, 0, 0))), some (.inr (.inr (1, b, 0))), some (.inl (nI l)), some (.inl (nI (sf S l))), some (.inl (nI (se S l))), some (.inl (gbF S 6 (sf S l) 0)), some (.inl (gbF S 6 (se S l) 0)), some (.inl ((gbF S 6 (sf S l) 0) &&& ((gbF S 6 (se S l) 0) ^^^ (-1)))), some (.inl ((gbF S 6 (se S l) 0) &&& ((gbF S 6 (sf S l) 0) ^^^ (-1)))), some (.inr (.inl ((slS S (gbF S 6 (se S l) 0 &&& (gbF S 6 (sf S l) 0 ^^^ -1)) 63 (sG S)) - (slS S (gbF S 6 (sf S l) 0 &&& (gbF S 6 (se S l) 0 ^^^ -1)) 0 (sG S))))), none, some (.inr (.inl ((slS S (gbF S 6 (se S l) 0 &&& (gbF S 6 (sf S l) 0 ^^^ -1)) 0 (sG S)) - (slS S (gbF S 6 (sf S l) 0 &&& (gbF S 6 (se S l) 0 ^^^ -1)) 63 (sG S))))), none], [.inr (.inl ((((shi S l) : Int32).toInt64) - ((slS S (gbF S 6 (se S l) 0 &&& (gbF S 6 (sf S l) 0 ^^^ -1)) 63 (sG S)) - (slS S (gbF S 6 (sf S l) 0 &&& (gbF S 6 (se S l) 0 ^^^ -1)) 0 (sG S))))), .inr (.inl ((((slo S l) : Int32).toInt64) - ((slS S (gbF S 6 (se S l) 0 &&& (gbF S 6 (sf S l) 0 ^^^ -1)) 0 (sG S)) - (slS S (gbF S 6 (sf S l) 0 &&& (gbF S 6 (se S l) 0 ^^^ -1)) 63 (sG S))))), .inl (nI (rtF S 6 (se S l))), .inl (nI (rtF S 6 (sf S l))), .inr (.inr (0, 0, 1))], (I, J, R)) _ from ?_)
  refine dn_call rfl rfl rfl rfl rfl (ss_lowerBothWays_0_1 (by omega) (by omega) ?_)
  refine dn_ret0 rfl rfl rfl rfl ?_
  exact hQ _ ((hr.low (by omega) (by omega) (by omega)).low (by omega) (by omega) (by omega))
theorem sc_isStrong_loop {I : tkI} {J : tkJ} {R : Nat → Nat} {Q : tkQ} {b : Nat} {S : tkS} (hP : NetP (I 1 b) S) (w : WF S) (hQ : ∀ r, RowP 16 r (strF S).2 → Q (some (.inl (if (strF S).1 = true then 1 else 0))) (I, tk_so J 0 0 (tk_u1 (J 0 0) 1 r), R)) : ∀ n l r, l + n = sL S → RowP 16 r (stM S l) → tkDn tm_3 (9, [some (.inr (.inr (0, 0, 0))), some (.inr (.inr (1, b, 0))), some (.inl (nI l))], [], (I, tk_so J 0 0 (tk_u1 (J 0 0) 1 r), R)) Q := by
  have hM16 := w.1
  have hL60 := w.2.1
  have hG6 := w.2.2.1
  intro n
  induction n with
  | zero =>
    intro l r hl hr
    have hl : l = sL S := by omega
    rw [hl] at hr
    show tkDn tm_3 (9, [some (.inr (.inr (0, 0, 0))), some (.inr (.inr (1, b, 0))), some (.inl (nI l))], [], (I, tk_so J 0 0 (tk_u1 (J 0 0) 1 r), R)) _
    refine dn_run 2 (show tkDn tm_3 (11, [some (.inr (.inr (0, 0, 0))), some (.inr (.inr (1, b, 0))), some (.inl (nI l))], [.inr (.inr (1, b, 0)), .inl (nI l)], (I, tk_so J 0 0 (tk_u1 (J 0 0) 1 r), R)) _ from ?_)
    refine dn_call rfl rfl rfl rfl rfl (sN_linkCount hP ?_)
    show tkDn tm_3 (14, [some (.inr (.inr (0, 0, 0))), some (.inr (.inr (1, b, 0))), some (.inl (nI l))], [.inl (nI (sL S)), .inl (nI l)], (I, tk_so J 0 0 (tk_u1 (J 0 0) 1 r), R)) _
    refine dn_if rfl rfl rfl (fun (c : (nI (sL S)) ≤ (nI l)) => ?_) (fun (c : ¬ (nI (sL S)) ≤ (nI l)) => ?_)
    · show tkDn tm_3 (37, [some (.inr (.inr (0, 0, 0))), some (.inr (.inr (1, b, 0))), some (.inl (nI l))], [], (I, tk_so J 0 0 (tk_u1 (J 0 0) 1 r), R)) _
      refine dn_run 3 (show tkDn tm_3 (42, [some (.inr (.inr (0, 0, 0))), some (.inr (.inr (1, b, 0))), some (.inl (nI l))], [.inr (.inr (1, b, 0)), .inr (.inr (0, 0, 1))], (I, tk_so J 0 0 (tk_u1 (J 0 0) 1 r), R)) _ from ?_)
      refine dn_call rfl rfl rfl rfl rfl (sN_momentCount hP ?_)
      show tkDn tm_3 (45, [some (.inr (.inr (0, 0, 0))), some (.inr (.inr (1, b, 0))), some (.inl (nI l))], [.inl (nI (sM S)), .inr (.inr (0, 0, 1))], (I, tk_so J 0 0 (tk_u1 (J 0 0) 1 r), R)) _
      refine dn_call rfl rfl rfl rfl rfl (ss_close_0_1 (d := stM S (sL S)) hM16 hr (fun r3 hr3 => ?_))
      rw [tk_so_so, tk_so_same, tk_u1_u1]
      show tkDn tm_3 (48, [some (.inr (.inr (0, 0, 0))), some (.inr (.inr (1, b, 0))), some (.inl (nI l))], [.inl (if (clF (stM S (sL S)) (sM S)).1 = true then 1 else 0)], (I, tk_so J 0 0 (tk_u1 (J 0 0) 1 r3), R)) _
      refine dn_retb rfl rfl rfl rfl (by by_cases z : (clF (stM S (sL S)) (sM S)).1 = true; exact Or.inr (if_pos z); exact Or.inl (if_neg z)) ?_
      exact hQ r3 hr3
    · exact absurd (nI_le (by omega) (by omega)) c
  | succ n ih =>
    intro l r hl hr
    have e8 := hP.gn w (j := l) (by omega)
    show tkDn tm_3 (9, [some (.inr (.inr (0, 0, 0))), some (.inr (.inr (1, b, 0))), some (.inl (nI l))], [], (I, tk_so J 0 0 (tk_u1 (J 0 0) 1 r), R)) _
    refine dn_run 2 (show tkDn tm_3 (11, [some (.inr (.inr (0, 0, 0))), some (.inr (.inr (1, b, 0))), some (.inl (nI l))], [.inr (.inr (1, b, 0)), .inl (nI l)], (I, tk_so J 0 0 (tk_u1 (J 0 0) 1 r), R)) _ from ?_)
    refine dn_call rfl rfl rfl rfl rfl (sN_linkCount hP ?_)
    show tkDn tm_3 (14, [some (.inr (.inr (0, 0, 0))), some (.inr (.inr (1, b, 0))), some (.inl (nI l))], [.inl (nI (sL S)), .inl (nI l)], (I, tk_so J 0 0 (tk_u1 (J 0 0) 1 r), R)) _
    refine dn_if rfl rfl rfl (fun (c : (nI (sL S)) ≤ (nI l)) => ?_) (fun (c : ¬ (nI (sL S)) ≤ (nI l)) => ?_)
    · exact absurd c (nI_ge (by omega) (by omega))
    · show tkDn tm_3 (17, [some (.inr (.inr (0, 0, 0))), some (.inr (.inr (1, b, 0))), some (.inl (nI l))], [], (I, tk_so J 0 0 (tk_u1 (J 0 0) 1 r), R)) _
      refine dn_run 2 (show tkDn tm_3 (19, [some (.inr (.inr (0, 0, 0))), some (.inr (.inr (1, b, 0))), some (.inl (nI l))], [.inl (nI l), .inr (.inr (1, b, 0))], (I, tk_so J 0 0 (tk_u1 (J 0 0) 1 r), R)) _ from ?_)
      refine dn_call rfl rfl rfl rfl rfl (sn_isGift (vp_in_nI (by omega) (by omega)) ?_)
      show tkDn tm_3 (22, [some (.inr (.inr (0, 0, 0))), some (.inr (.inr (1, b, 0))), some (.inl (nI l))], [.inl (if I 1 b 8 (nI l).toNatClampNeg = -9 then 0 else 1)], (I, tk_so J 0 0 (tk_u1 (J 0 0) 1 r), R)) _
      rw [e8]
      refine dn_if rfl rfl rfl (fun (c2 : ¬ (if sgn S l = -9 then 0 else 1) = 0) => ?_) (fun (c2 : (if sgn S l = -9 then 0 else 1) = 0) => ?_)
      · show tkDn tm_3 (31, [some (.inr (.inr (0, 0, 0))), some (.inr (.inr (1, b, 0))), some (.inl (nI l))], [], (I, tk_so J 0 0 (tk_u1 (J 0 0) 1 r), R)) _
        have hs : ¬ sgn S l = -9 := fun q => by rw [if_pos q] at c2; exact c2 rfl
        refine dn_run 2 (show tkDn tm_3 (9, [some (.inr (.inr (0, 0, 0))), some (.inr (.inr (1, b, 0))), some (.inl ((nI l) + 1))], [], (I, tk_so J 0 0 (tk_u1 (J 0 0) 1 r), R)) _ from ?_)
        rw [nI_1]
        exact ih (l + 1) r (by omega) (by rw [show stM S (l + 1) = stM S l from if_neg hs]; exact hr)
      · show tkDn tm_3 (25, [some (.inr (.inr (0, 0, 0))), some (.inr (.inr (1, b, 0))), some (.inl (nI l))], [], (I, tk_so J 0 0 (tk_u1 (J 0 0) 1 r), R)) _
        have hs : sgn S l = -9 := by by_cases q : sgn S l = -9; exact q; rw [if_neg q] at c2; exact absurd c2 (by decide)
        refine dn_run 3 (show tkDn tm_3 (28, [some (.inr (.inr (0, 0, 0))), some (.inr (.inr (1, b, 0))), some (.inl (nI l))], [.inl (nI l), .inr (.inr (1, b, 0)), .inr (.inr (0, 0, 0))], (I, tk_so J 0 0 (tk_u1 (J 0 0) 1 r), R)) _ from ?_)
        refine dn_call rfl rfl rfl rfl rfl (sc_putWorstWish hP w (d := stM S l) (by omega) hr (fun r3 hr3 => ?_))
        rw [tk_so_so, tk_so_same, tk_u1_u1]
        show tkDn tm_3 (31, [some (.inr (.inr (0, 0, 0))), some (.inr (.inr (1, b, 0))), some (.inl (nI l))], [], (I, tk_so J 0 0 (tk_u1 (J 0 0) 1 r3), R)) _
        refine dn_run 2 (show tkDn tm_3 (9, [some (.inr (.inr (0, 0, 0))), some (.inr (.inr (1, b, 0))), some (.inl ((nI l) + 1))], [], (I, tk_so J 0 0 (tk_u1 (J 0 0) 1 r3), R)) _ from ?_)
        rw [nI_1]
        exact ih (l + 1) r3 (by omega) (by rw [show stM S (l + 1) = wwM S (stM S l) l from if_pos hs]; exact hr3)
theorem sc_isStrong {I : tkI} {J : tkJ} {R : Nat → Nat} {Q : tkQ} {b : Nat} {S : tkS} (hP : NetP (I 1 b) S) (w : WF S) (hQ : ∀ r, RowP 16 r (strF S).2 → Q (some (.inl (if (strF S).1 = true then 1 else 0))) (I, tk_so J 0 0 (tk_u1 (J 0 0) 1 r), R)) : tkDn tm_3 (0, [some (.inr (.inr (0, 0, 0))), some (.inr (.inr (1, b, 0))), none], [], (I, J, R)) Q := by
  refine dn_run 2 (show tkDn tm_3 (4, [some (.inr (.inr (0, 0, 0))), some (.inr (.inr (1, b, 0))), none], [.inr (.inr (0, 0, 1))], (I, J, R)) _ from ?_)
  refine dn_call rfl rfl rfl rfl rfl (ss_clear_0_1 (fun r hr => ?_))
  show tkDn tm_3 (7, [some (.inr (.inr (0, 0, 0))), some (.inr (.inr (1, b, 0))), none], [], (I, tk_so J 0 0 (tk_u1 (J 0 0) 1 r), R)) _
  refine dn_run 2 (show tkDn tm_3 (9, [some (.inr (.inr (0, 0, 0))), some (.inr (.inr (1, b, 0))), some (.inl 0)], [], (I, tk_so J 0 0 (tk_u1 (J 0 0) 1 r), R)) _ from ?_)
  exact sc_isStrong_loop hP w hQ (sL S) 0 r (Nat.zero_add _) hr
theorem sc_canBeMet_loop {I : tkI} {J : tkJ} {R : Nat → Nat} {Q : tkQ} {b : Nat} {S : tkS} (hP : NetP (I 1 b) S) (w : WF S) {k : Int32} (hQ : ∀ r, RowP 16 r (metF S k).2 → Q (some (.inl (if (metF S k).1 = true then 1 else 0))) (I, tk_so J 0 0 (tk_u1 (J 0 0) 1 r), R)) : ∀ n g r o, g + n = sG S → RowP 16 r (cbM S k g) → tkDn tm_10 (10, [some (.inr (.inr (0, 0, 0))), some (.inr (.inr (1, b, 0))), some (.inl k), some (.inl (nI g)), o, none], [], (I, tk_so J 0 0 (tk_u1 (J 0 0) 1 r), R)) Q := by
  have hM16 := w.1
  have hL60 := w.2.1
  have hG6 := w.2.2.1
  intro n
  induction n with
  | zero =>
    intro g r o hg hr
    have hg : g = sG S := by omega
    rw [hg] at hr
    show tkDn tm_10 (10, [some (.inr (.inr (0, 0, 0))), some (.inr (.inr (1, b, 0))), some (.inl k), some (.inl (nI g)), o, none], [], (I, tk_so J 0 0 (tk_u1 (J 0 0) 1 r), R)) _
    refine dn_run 2 (show tkDn tm_10 (12, [some (.inr (.inr (0, 0, 0))), some (.inr (.inr (1, b, 0))), some (.inl k), some (.inl (nI g)), o, none], [.inr (.inr (1, b, 0)), .inl (nI g)], (I, tk_so J 0 0 (tk_u1 (J 0 0) 1 r), R)) _ from ?_)
    refine dn_call rfl rfl rfl rfl rfl (sN_giftCount hP ?_)
    show tkDn tm_10 (15, [some (.inr (.inr (0, 0, 0))), some (.inr (.inr (1, b, 0))), some (.inl k), some (.inl (nI g)), o, none], [.inl (nI (sG S)), .inl (nI g)], (I, tk_so J 0 0 (tk_u1 (J 0 0) 1 r), R)) _
    refine dn_if rfl rfl rfl (fun (c : (nI (sG S)) ≤ (nI g)) => ?_) (fun (c : ¬ (nI (sG S)) ≤ (nI g)) => ?_)
    · show tkDn tm_10 (54, [some (.inr (.inr (0, 0, 0))), some (.inr (.inr (1, b, 0))), some (.inl k), some (.inl (nI g)), o, none], [], (I, tk_so J 0 0 (tk_u1 (J 0 0) 1 r), R)) _
      refine dn_run 3 (show tkDn tm_10 (59, [some (.inr (.inr (0, 0, 0))), some (.inr (.inr (1, b, 0))), some (.inl k), some (.inl (nI g)), o, none], [.inr (.inr (1, b, 0)), .inr (.inr (0, 0, 1))], (I, tk_so J 0 0 (tk_u1 (J 0 0) 1 r), R)) _ from ?_)
      refine dn_call rfl rfl rfl rfl rfl (sN_momentCount hP ?_)
      show tkDn tm_10 (62, [some (.inr (.inr (0, 0, 0))), some (.inr (.inr (1, b, 0))), some (.inl k), some (.inl (nI g)), o, none], [.inl (nI (sM S)), .inr (.inr (0, 0, 1))], (I, tk_so J 0 0 (tk_u1 (J 0 0) 1 r), R)) _
      refine dn_call rfl rfl rfl rfl rfl (ss_close_0_1 (d := cbM S k (sG S)) hM16 hr (fun r3 hr3 => ?_))
      rw [tk_so_so, tk_so_same, tk_u1_u1]
      show tkDn tm_10 (65, [some (.inr (.inr (0, 0, 0))), some (.inr (.inr (1, b, 0))), some (.inl k), some (.inl (nI g)), o, none], [.inl (if (clF (cbM S k (sG S)) (sM S)).1 = true then 1 else 0)], (I, tk_so J 0 0 (tk_u1 (J 0 0) 1 r3), R)) _
      refine dn_retb rfl rfl rfl rfl (by by_cases z : (clF (cbM S k (sG S)) (sM S)).1 = true; exact Or.inr (if_pos z); exact Or.inl (if_neg z)) ?_
      exact hQ r3 hr3
    · exact absurd (nI_le (by omega) (by omega)) c
  | succ n ih =>
    intro g r o hg hr
    have hgl := w.gl (g := g) (by omega)
    have hf := w.fM hgl
    have he := w.eM hgl
    show tkDn tm_10 (10, [some (.inr (.inr (0, 0, 0))), some (.inr (.inr (1, b, 0))), some (.inl k), some (.inl (nI g)), o, none], [], (I, tk_so J 0 0 (tk_u1 (J 0 0) 1 r), R)) _
    refine dn_run 2 (show tkDn tm_10 (12, [some (.inr (.inr (0, 0, 0))), some (.inr (.inr (1, b, 0))), some (.inl k), some (.inl (nI g)), o, none], [.inr (.inr (1, b, 0)), .inl (nI g)], (I, tk_so J 0 0 (tk_u1 (J 0 0) 1 r), R)) _ from ?_)
    refine dn_call rfl rfl rfl rfl rfl (sN_giftCount hP ?_)
    show tkDn tm_10 (15, [some (.inr (.inr (0, 0, 0))), some (.inr (.inr (1, b, 0))), some (.inl k), some (.inl (nI g)), o, none], [.inl (nI (sG S)), .inl (nI g)], (I, tk_so J 0 0 (tk_u1 (J 0 0) 1 r), R)) _
    refine dn_if rfl rfl rfl (fun (c : (nI (sG S)) ≤ (nI g)) => ?_) (fun (c : ¬ (nI (sG S)) ≤ (nI g)) => ?_)
    · exact absurd c (nI_ge (by omega) (by omega))
    · show tkDn tm_10 (18, [some (.inr (.inr (0, 0, 0))), some (.inr (.inr (1, b, 0))), some (.inl k), some (.inl (nI g)), o, none], [], (I, tk_so J 0 0 (tk_u1 (J 0 0) 1 r), R)) _
      refine dn_run 3 (show tkDn tm_10 (21, [some (.inr (.inr (0, 0, 0))), some (.inr (.inr (1, b, 0))), some (.inl k), some (.inl (nI g)), o, none], [.inl k, .inl (nI g), .inr (.inr (1, b, 0))], (I, tk_so J 0 0 (tk_u1 (J 0 0) 1 r), R)) _ from ?_)
      refine dn_call rfl rfl rfl rfl rfl (sn_chosenLength hP w (g := g) (by omega) ?_)
      show tkDn tm_10 (24, [some (.inr (.inr (0, 0, 0))), some (.inr (.inr (1, b, 0))), some (.inl k), some (.inl (nI g)), o, none], [.inl (chL S k g)], (I, tk_so J 0 0 (tk_u1 (J 0 0) 1 r), R)) _
      refine dn_run 6 (show tkDn tm_10 (33, [some (.inr (.inr (0, 0, 0))), some (.inr (.inr (1, b, 0))), some (.inl k), some (.inl (nI g)), some (.inr (.inl (((chL S k g) : Int32).toInt64))), none], [.inl (nI g), .inr (.inr (1, b, 0)), .inr (.inr (0, 0, 1))], (I, tk_so J 0 0 (tk_u1 (J 0 0) 1 r), R)) _ from ?_)
      refine dn_call rfl rfl rfl rfl rfl (sN_giftFrom hP w (g := g) (by omega) ?_)
      show tkDn tm_10 (36, [some (.inr (.inr (0, 0, 0))), some (.inr (.inr (1, b, 0))), some (.inl k), some (.inl (nI g)), some (.inr (.inl (((chL S k g) : Int32).toInt64))), none], [.inl (nI (sf S (sgl S g))), .inr (.inr (0, 0, 1))], (I, tk_so J 0 0 (tk_u1 (J 0 0) 1 r), R)) _
      refine dn_run 2 (show tkDn tm_10 (38, [some (.inr (.inr (0, 0, 0))), some (.inr (.inr (1, b, 0))), some (.inl k), some (.inl (nI g)), some (.inr (.inl (((chL S k g) : Int32).toInt64))), none], [.inl (nI g), .inr (.inr (1, b, 0)), .inl (nI (sf S (sgl S g))), .inr (.inr (0, 0, 1))], (I, tk_so J 0 0 (tk_u1 (J 0 0) 1 r), R)) _ from ?_)
      refine dn_call rfl rfl rfl rfl rfl (sN_giftTo hP w (g := g) (by omega) ?_)
      show tkDn tm_10 (41, [some (.inr (.inr (0, 0, 0))), some (.inr (.inr (1, b, 0))), some (.inl k), some (.inl (nI g)), some (.inr (.inl (((chL S k g) : Int32).toInt64))), none], [.inl (nI (se S (sgl S g))), .inl (nI (sf S (sgl S g))), .inr (.inr (0, 0, 1))], (I, tk_so J 0 0 (tk_u1 (J 0 0) 1 r), R)) _
      refine dn_run 2 (show tkDn tm_10 (45, [some (.inr (.inr (0, 0, 0))), some (.inr (.inr (1, b, 0))), some (.inl k), some (.inl (nI g)), some (.inr (.inl (((chL S k g) : Int32).toInt64))), none], [.inr (.inl (((chL S k g) : Int32).toInt64)), .inr (.inl (((chL S k g) : Int32).toInt64)), .inl (nI (se S (sgl S g))), .inl (nI (sf S (sgl S g))), .inr (.inr (0, 0, 1))], (I, tk_so J 0 0 (tk_u1 (J 0 0) 1 r), R)) _ from ?_)
      refine dn_call rfl rfl rfl rfl rfl (ss_lowerBothWays_0_1 (by omega) (by omega) ?_)
      rw [tk_so_so, tk_so_same, tk_u1_u1, tk_u1_same]
      show tkDn tm_10 (48, [some (.inr (.inr (0, 0, 0))), some (.inr (.inr (1, b, 0))), some (.inl k), some (.inl (nI g)), some (.inr (.inl (((chL S k g) : Int32).toInt64))), none], [], (I, tk_so J 0 0 (tk_u1 (J 0 0) 1 (low1 (low1 r (16 * sf S (sgl S g) + se S (sgl S g)) (chL S k g).toInt64) (16 * se S (sgl S g) + sf S (sgl S g)) (-(chL S k g).toInt64))), R)) _
      refine dn_run 2 (show tkDn tm_10 (10, [some (.inr (.inr (0, 0, 0))), some (.inr (.inr (1, b, 0))), some (.inl k), some (.inl ((nI g) + 1)), some (.inr (.inl (((chL S k g) : Int32).toInt64))), none], [], (I, tk_so J 0 0 (tk_u1 (J 0 0) 1 (low1 (low1 r (16 * sf S (sgl S g) + se S (sgl S g)) (chL S k g).toInt64) (16 * se S (sgl S g) + sf S (sgl S g)) (-(chL S k g).toInt64))), R)) _ from ?_)
      rw [nI_1]
      exact ih (g + 1) _ _ (by omega) ((hr.low (by omega) (by omega) (by omega)).low (by omega) (by omega) (by omega))
theorem sc_canBeMet {I : tkI} {J : tkJ} {R : Nat → Nat} {Q : tkQ} {b : Nat} {S : tkS} (hP : NetP (I 1 b) S) (w : WF S) {k : Int32} (hQ : ∀ r, RowP 16 r (metF S k).2 → Q (some (.inl (if (metF S k).1 = true then 1 else 0))) (I, tk_so J 0 0 (tk_u1 (J 0 0) 1 r), R)) : tkDn tm_10 (0, [some (.inr (.inr (0, 0, 0))), some (.inr (.inr (1, b, 0))), some (.inl k), none, none, none], [], (I, J, R)) Q := by
  refine dn_run 3 (show tkDn tm_10 (5, [some (.inr (.inr (0, 0, 0))), some (.inr (.inr (1, b, 0))), some (.inl k), none, none, none], [.inr (.inr (0, 0, 1)), .inr (.inr (1, b, 0))], (I, J, R)) _ from ?_)
  refine dn_call rfl rfl rfl rfl rfl (ss_ofAllLinks_0_1 hP w (fun r hr => ?_))
  show tkDn tm_10 (8, [some (.inr (.inr (0, 0, 0))), some (.inr (.inr (1, b, 0))), some (.inl k), none, none, none], [], (I, tk_so J 0 0 (tk_u1 (J 0 0) 1 r), R)) _
  refine dn_run 2 (show tkDn tm_10 (10, [some (.inr (.inr (0, 0, 0))), some (.inr (.inr (1, b, 0))), some (.inl k), some (.inl 0), none, none], [], (I, tk_so J 0 0 (tk_u1 (J 0 0) 1 r), R)) _ from ?_)
  exact sc_canBeMet_loop hP w hQ (sG S) 0 r none (Nat.zero_add _) hr
theorem sc_seekSpoiled_loop {I : tkI} {J : tkJ} {R : Nat → Nat} {Q : tkQ} {b : Nat} {S : tkS} (hP : NetP (I 1 b) S) (w : WF S) : ∀ n k r, k + n = 2 ^ sG S → (∀ r, Q (some (.inl (skF S n k))) (I, tk_so J 0 0 (tk_u1 (J 0 0) 1 r), R)) → tkDn tm_9 (2, [some (.inr (.inr (0, 0, 0))), some (.inr (.inr (1, b, 0))), some (.inl (nI k))], [], (I, tk_so J 0 0 (tk_u1 (J 0 0) 1 r), R)) Q := by
  have hM16 := w.1
  have hL60 := w.2.1
  have hG6 := w.2.2.1
  have h64 := pw2 (sG S) (by omega)
  intro n
  induction n with
  | zero =>
    intro k r hk hQ
    show tkDn tm_9 (2, [some (.inr (.inr (0, 0, 0))), some (.inr (.inr (1, b, 0))), some (.inl (nI k))], [], (I, tk_so J 0 0 (tk_u1 (J 0 0) 1 r), R)) _
    refine dn_run 3 (show tkDn tm_9 (5, [some (.inr (.inr (0, 0, 0))), some (.inr (.inr (1, b, 0))), some (.inl (nI k))], [.inr (.inr (1, b, 0)), .inl 1, .inl (nI k)], (I, tk_so J 0 0 (tk_u1 (J 0 0) 1 r), R)) _ from ?_)
    refine dn_call rfl rfl rfl rfl rfl (sN_giftCount hP ?_)
    show tkDn tm_9 (8, [some (.inr (.inr (0, 0, 0))), some (.inr (.inr (1, b, 0))), some (.inl (nI k))], [.inl (nI (sG S)), .inl 1, .inl (nI k)], (I, tk_so J 0 0 (tk_u1 (J 0 0) 1 r), R)) _
    refine dn_run 1 (show tkDn tm_9 (9, [some (.inr (.inr (0, 0, 0))), some (.inr (.inr (1, b, 0))), some (.inl (nI k))], [.inl (1 <<< ((nI (sG S)) &&& 31)), .inl (nI k)], (I, tk_so J 0 0 (tk_u1 (J 0 0) 1 r), R)) _ from ?_)
    rw [shl1 (sG S) (by omega)]
    refine dn_if rfl rfl rfl (fun (c : (nI (2 ^ sG S)) ≤ (nI k)) => ?_) (fun (c : ¬ (nI (2 ^ sG S)) ≤ (nI k)) => ?_)
    · show tkDn tm_9 (29, [some (.inr (.inr (0, 0, 0))), some (.inr (.inr (1, b, 0))), some (.inl (nI k))], [], (I, tk_so J 0 0 (tk_u1 (J 0 0) 1 r), R)) _
      refine dn_run 1 (show tkDn tm_9 (31, [some (.inr (.inr (0, 0, 0))), some (.inr (.inr (1, b, 0))), some (.inl (nI k))], [.inl (-9)], (I, tk_so J 0 0 (tk_u1 (J 0 0) 1 r), R)) _ from ?_)
      refine dn_ret0 rfl rfl rfl rfl ?_
      exact hQ r
    · exact absurd (nI_le (by omega) (by omega)) c
  | succ n ih =>
    intro k r hk hQ
    show tkDn tm_9 (2, [some (.inr (.inr (0, 0, 0))), some (.inr (.inr (1, b, 0))), some (.inl (nI k))], [], (I, tk_so J 0 0 (tk_u1 (J 0 0) 1 r), R)) _
    refine dn_run 3 (show tkDn tm_9 (5, [some (.inr (.inr (0, 0, 0))), some (.inr (.inr (1, b, 0))), some (.inl (nI k))], [.inr (.inr (1, b, 0)), .inl 1, .inl (nI k)], (I, tk_so J 0 0 (tk_u1 (J 0 0) 1 r), R)) _ from ?_)
    refine dn_call rfl rfl rfl rfl rfl (sN_giftCount hP ?_)
    show tkDn tm_9 (8, [some (.inr (.inr (0, 0, 0))), some (.inr (.inr (1, b, 0))), some (.inl (nI k))], [.inl (nI (sG S)), .inl 1, .inl (nI k)], (I, tk_so J 0 0 (tk_u1 (J 0 0) 1 r), R)) _
    refine dn_run 1 (show tkDn tm_9 (9, [some (.inr (.inr (0, 0, 0))), some (.inr (.inr (1, b, 0))), some (.inl (nI k))], [.inl (1 <<< ((nI (sG S)) &&& 31)), .inl (nI k)], (I, tk_so J 0 0 (tk_u1 (J 0 0) 1 r), R)) _ from ?_)
    rw [shl1 (sG S) (by omega)]
    refine dn_if rfl rfl rfl (fun (c : (nI (2 ^ sG S)) ≤ (nI k)) => ?_) (fun (c : ¬ (nI (2 ^ sG S)) ≤ (nI k)) => ?_)
    · exact absurd c (nI_ge (by omega) (by omega))
    · show tkDn tm_9 (12, [some (.inr (.inr (0, 0, 0))), some (.inr (.inr (1, b, 0))), some (.inl (nI k))], [], (I, tk_so J 0 0 (tk_u1 (J 0 0) 1 r), R)) _
      refine dn_run 3 (show tkDn tm_9 (15, [some (.inr (.inr (0, 0, 0))), some (.inr (.inr (1, b, 0))), some (.inl (nI k))], [.inl (nI k), .inr (.inr (1, b, 0)), .inr (.inr (0, 0, 0))], (I, tk_so J 0 0 (tk_u1 (J 0 0) 1 r), R)) _ from ?_)
      refine dn_call rfl rfl rfl rfl rfl (sc_canBeMet hP w (fun r3 hr3 => ?_))
      rw [tk_so_so, tk_so_same, tk_u1_u1]
      show tkDn tm_9 (18, [some (.inr (.inr (0, 0, 0))), some (.inr (.inr (1, b, 0))), some (.inl (nI k))], [.inl (if (metF S (nI k)).1 = true then 1 else 0)], (I, tk_so J 0 0 (tk_u1 (J 0 0) 1 r3), R)) _
      refine dn_if rfl rfl rfl (fun (c2 : ¬ (if (metF S (nI k)).1 = true then 1 else 0) = 0) => ?_) (fun (c2 : (if (metF S (nI k)).1 = true then 1 else 0) = 0) => ?_)
      · show tkDn tm_9 (23, [some (.inr (.inr (0, 0, 0))), some (.inr (.inr (1, b, 0))), some (.inl (nI k))], [], (I, tk_so J 0 0 (tk_u1 (J 0 0) 1 r3), R)) _
        have hm : (metF S (nI k)).1 = true := by by_cases z : (metF S (nI k)).1 = true; exact z; exact absurd (if_neg z) c2
        refine dn_run 2 (show tkDn tm_9 (2, [some (.inr (.inr (0, 0, 0))), some (.inr (.inr (1, b, 0))), some (.inl ((nI k) + 1))], [], (I, tk_so J 0 0 (tk_u1 (J 0 0) 1 r3), R)) _ from ?_)
        rw [nI_1]
        rw [show skF S (n + 1) k = skF S n (k + 1) from if_pos hm] at hQ
        exact ih (k + 1) r3 (by omega) hQ
      · show tkDn tm_9 (21, [some (.inr (.inr (0, 0, 0))), some (.inr (.inr (1, b, 0))), some (.inl (nI k))], [], (I, tk_so J 0 0 (tk_u1 (J 0 0) 1 r3), R)) _
        refine dn_run 1 (show tkDn tm_9 (22, [some (.inr (.inr (0, 0, 0))), some (.inr (.inr (1, b, 0))), some (.inl (nI k))], [.inl (nI k)], (I, tk_so J 0 0 (tk_u1 (J 0 0) 1 r3), R)) _ from ?_)
        refine dn_ret0 rfl rfl rfl rfl ?_
        have hm : ¬ (metF S (nI k)).1 = true := fun z => by rw [if_pos z] at c2; exact absurd c2 (by decide)
        rw [show skF S (n + 1) k = nI k from if_neg hm] at hQ
        exact hQ r3
theorem sc_seekSpoiled {I : tkI} {J : tkJ} {R : Nat → Nat} {Q : tkQ} {b : Nat} {S : tkS} (hP : NetP (I 1 b) S) (w : WF S) (hQ : ∀ r, Q (some (.inl (spo S))) (I, tk_so J 0 0 (tk_u1 (J 0 0) 1 r), R)) : tkDn tm_9 (0, [some (.inr (.inr (0, 0, 0))), some (.inr (.inr (1, b, 0))), none], [], (I, J, R)) Q := by
  refine dn_run 2 (show tkDn tm_9 (2, [some (.inr (.inr (0, 0, 0))), some (.inr (.inr (1, b, 0))), some (.inl 0)], [], (I, J, R)) _ from ?_)
  have := sc_seekSpoiled_loop (J := J) hP w (2 ^ sG S) 0 (J 0 0 1) (Nat.zero_add _) hQ
  rw [jr_id] at this
  exact this
theorem sc_firstSpoiled {I : tkI} {J : tkJ} {R : Nat → Nat} {Q : tkQ} {b : Nat} {S : tkS} (hP : NetP (I 1 b) S) (w : WF S) (hk : ¬ I 0 0 0 1 = 0 → I 0 0 0 2 = spo S) (hQ : ∀ X r, (¬ X 0 1 = 0 ∧ X 0 2 = spo S) → Q (some (.inl (spo S))) (tk_so I 0 0 X, tk_so J 0 0 (tk_u1 (J 0 0) 1 r), R)) : tkDn tm_8 (0, [some (.inr (.inr (0, 0, 0))), some (.inr (.inr (1, b, 0)))], [], (I, J, R)) Q := by
  refine dn_run 2 (show tkDn tm_8 (4, [some (.inr (.inr (0, 0, 0))), some (.inr (.inr (1, b, 0)))], [.inl (I 0 0 0 1)], (I, J, R)) _ from ?_)
  refine dn_if rfl rfl rfl (fun (c : ¬ (I 0 0 0 1) = 0) => ?_) (fun (c : (I 0 0 0 1) = 0) => ?_)
  · show tkDn tm_8 (21, [some (.inr (.inr (0, 0, 0))), some (.inr (.inr (1, b, 0)))], [], (I, J, R)) _
    refine dn_run 2 (show tkDn tm_8 (25, [some (.inr (.inr (0, 0, 0))), some (.inr (.inr (1, b, 0)))], [.inl (I 0 0 0 2)], (I, J, R)) _ from ?_)
    rw [hk c]
    refine dn_ret0 rfl rfl rfl rfl ?_
    have := hQ (I 0 0) (J 0 0 1) ⟨c, hk c⟩
    rw [tk_so_id, jr_id] at this
    exact this
  · show tkDn tm_8 (7, [some (.inr (.inr (0, 0, 0))), some (.inr (.inr (1, b, 0)))], [], (I, J, R)) _
    refine dn_run 3 (show tkDn tm_8 (10, [some (.inr (.inr (0, 0, 0))), some (.inr (.inr (1, b, 0)))], [.inr (.inr (1, b, 0)), .inr (.inr (0, 0, 0)), .inr (.inr (0, 0, 0))], (I, J, R)) _ from ?_)
    refine dn_call rfl rfl rfl rfl rfl (sc_seekSpoiled hP w (fun r => ?_))
    show tkDn tm_8 (13, [some (.inr (.inr (0, 0, 0))), some (.inr (.inr (1, b, 0)))], [.inl (spo S), .inr (.inr (0, 0, 0))], (I, tk_so J 0 0 (tk_u1 (J 0 0) 1 r), R)) _
    refine dn_run 6 (show (1 = 0 ∨ 1 = 1) ∧ tkDn tm_8 (25, [some (.inr (.inr (0, 0, 0))), some (.inr (.inr (1, b, 0)))], [.inl (spo S)], (tk_so (tk_so I 0 0 (tk_u2 (I 0 0) 0 2 (spo S))) 0 0 (tk_u2 (tk_u2 (I 0 0) 0 2 (spo S)) 0 1 1), tk_so J 0 0 (tk_u1 (J 0 0) 1 r), R)) _ from ⟨Or.inr rfl, ?_⟩)
    rw [tk_so_so]
    refine dn_ret0 rfl rfl rfl rfl ?_
    exact hQ _ r ⟨by rw [tk_u2_1]; decide, by rw [tk_u2_0 (by decide), tk_u2_1]⟩
end
section
/-! the reference's tables, in numbers -/
def mvM (d : tkD) (a k : Nat) : Nat → tkD
  | 0 => d
  | b + 1 => if mvM d a k b a k = 4611686018427387904 then mvM d a k b else if mvM d a k b k b = 4611686018427387904 then mvM d a k b else lowM (mvM d a k b) a b (mvM d a k b a k + mvM d a k b k b)
def mwM (d : tkD) (k n : Nat) : Nat → tkD
  | 0 => d
  | a + 1 => mvM (mwM d k n a) a k n
def mcM (d : tkD) (n : Nat) : Nat → tkD
  | 0 => d
  | k + 1 => mwM (mcM d n k) k n n
def mcF (d : tkD) (n : Nat) : Bool × tkD := (!negF (mcM d n n) n 0, mcM d n n)
theorem mvM_stay {d : tkD} {a k b : Nat} (h : mvM d a k b a k = 4611686018427387904) : ∀ m, mvM d a k (b + m) = mvM d a k b := by
  intro m
  induction m with
  | zero => rfl
  | succ m ih =>
    have e : mvM d a k (b + m + 1) = mvM d a k (b + m) := if_pos (by rw [ih]; exact h)
    rw [show b + (m + 1) = b + m + 1 from rfl, e]
    exact ih
def mlA (S : tkS) (k : Int32) (l : Nat) : Int32 := if (0 ≤ k ∧ 0 ≤ sgn S l) ∧ ¬ (k >>> (sgn S l &&& 31)) &&& 1 = 1 then slo S l else shi S l
def mlB (S : tkS) (k : Int32) (l : Nat) : Int32 := if (0 ≤ k ∧ 0 ≤ sgn S l) ∧ (k >>> (sgn S l &&& 31)) &&& 1 = 1 then -shi S l else -slo S l
def mlM (S : tkS) (k : Int32) : Nat → tkD
  | 0 => d0M
  | l + 1 => lowM (lowM (mlM S k l) (sf S l) (se S l) (mlA S k l).toInt64) (se S l) (sf S l) (mlB S k l).toInt64
def mtog (S : tkS) (k : Int32) : Bool × tkD := mcF (mlM S k (sL S)) (sM S)
def mskF (S : tkS) : Nat → Nat → Int32
  | 0, _ => -1
  | n + 1, k => if (mtog S (nI k)).1 = true then mskF S n (k + 1) else nI k
def mspo (S : tkS) : Int32 := mskF S (2 ^ sG S) 0
def mstM (S : tkS) : Nat → tkD
  | 0 => d0M
  | l + 1 => if sgn S l < 0 then lowM (lowM (mstM S l) (rtF S 6 (sf S l)) (rtF S 6 (se S l)) ((shi S l).toInt64 - (slS S (gbF S 6 (se S l) 0 &&& (gbF S 6 (sf S l) 0 ^^^ -1)) 63 (sG S) - slS S (gbF S 6 (sf S l) 0 &&& (gbF S 6 (se S l) 0 ^^^ -1)) 0 (sG S))))
    (rtF S 6 (se S l)) (rtF S 6 (sf S l)) (slS S (gbF S 6 (se S l) 0 &&& (gbF S 6 (sf S l) 0 ^^^ -1)) 0 (sG S) - slS S (gbF S 6 (sf S l) 0 &&& (gbF S 6 (se S l) 0 ^^^ -1)) 63 (sG S) - (slo S l).toInt64) else mstM S l
def mstr (S : tkS) : Bool × tkD := mcF (mstM S (sL S)) (sM S)
theorem low1' {r : Nat → Int64} {c : Nat} {x : Int64} : tk_u1 r c (if x < r c then x else r c) = low1 r c x := by
  unfold low1
  split
  · rfl
  · exact tk_u1_id
def cwP (n a b : Nat) (r : Nat → Int64) : Prop := ∀ i j, j < n → (i < a ∨ (i = a ∧ j < b)) → r (16 * i + j) = d0M i j
theorem cwP_s {n a b : Nat} {r : Nat → Int64} (hn : n ≤ 16) (hb : b < n) (h : cwP n a b r) {x : Int64} (hx : x = d0M a b) : cwP n a (b + 1) (tk_u1 r (16 * a + b) x) := by
  intro i j hj hij
  by_cases e : i = a ∧ j = b
  · obtain ⟨rfl, rfl⟩ := e
    rw [tk_u1_same]; exact hx
  · rw [tk_u1_ne (by omega)]
    exact h i j hj (by omega)
theorem rtF_up {S : tkS} : ∀ n t, up S (n + 1) t = none → rtF S (n + 1) t = rtF S n t := by
  intro n
  induction n with
  | zero =>
    intro t h
    unfold up at h
    split at h
    · cases h
    · rename_i q
      show (if gt S t < sG S then _ else t) = t
      rw [if_neg q]
  | succ n ih =>
    intro t h
    by_cases q : gt S t < sG S
    · rw [show up S (n + 1 + 1) t = up S (n + 1) (sf S (sgl S (gt S t))) from if_pos q] at h
      rw [show rtF S (n + 1 + 1) t = rtF S (n + 1) (sf S (sgl S (gt S t))) from if_pos q, show rtF S (n + 1) t = rtF S n (sf S (sgl S (gt S t))) from if_pos q]
      exact ih _ h
    · rw [show rtF S (n + 1 + 1) t = t from if_neg q, show rtF S (n + 1) t = t from if_neg q]
theorem gbF_up {S : tkS} : ∀ n t acc, up S (n + 1) t = none → gbF S (n + 1) t acc = gbF S n t acc := by
  intro n
  induction n with
  | zero =>
    intro t acc h
    unfold up at h
    split at h
    · cases h
    · rename_i q
      show (if gt S t < sG S then _ else acc) = acc
      rw [if_neg q]
  | succ n ih =>
    intro t acc h
    by_cases q : gt S t < sG S
    · rw [show up S (n + 1 + 1) t = up S (n + 1) (sf S (sgl S (gt S t))) from if_pos q] at h
      rw [show gbF S (n + 1 + 1) t acc = gbF S (n + 1) (sf S (sgl S (gt S t))) (acc ||| (1 <<< (nI (gt S t) &&& 31))) from if_pos q, show gbF S (n + 1) t acc = gbF S n (sf S (sgl S (gt S t))) (acc ||| (1 <<< (nI (gt S t) &&& 31))) from if_pos q]
      exact ih _ _ h
    · rw [show gbF S (n + 1 + 1) t acc = acc from if_neg q, show gbF S (n + 1) t acc = acc from if_neg q]
theorem ch63 : ∀ g, g < 6 → ((63 : Int32) >>> (nI g &&& 31)) &&& 1 = 1 := by decide
theorem ch0 : ∀ g, g < 6 → ¬ ((0 : Int32) >>> (nI g &&& 31)) &&& 1 = 1 := by decide
theorem and1 (y : Int32) : y &&& 1 = 0 ∨ y &&& 1 = 1 := by
  obtain ⟨j, hj, e⟩ := pk_andE y (m := 1) 1 (by decide)
  rcases (show j = 0 ∨ j = 1 by omega) with rfl | rfl
  · left; exact e
  · right; exact e
def mRoot (X Y : Nat → Nat → Int32) : Prop := ∀ s k, ¬ (s = 0 ∧ (k = 21 ∨ k = 22)) → Y s k = X s k
theorem mRoot.net {X Y : Nat → Nat → Int32} {S : tkS} (h : mRoot X Y) (hP : NetP X S) : NetP Y S := NetP_to hP (fun k hk => h 0 k (by omega)) (fun s h4 h9 => funext fun k => h s k (by omega))
theorem mRoot.u {X Y : Nat → Nat → Int32} {k : Nat} {x : Int32} (h : mRoot X Y) (hk : k = 21 ∨ k = 22) : mRoot X (tk_u2 Y 0 k x) := fun s j hj => by
  rw [tk_u2_0 (by omega)]
  exact h s j hj
theorem mRoot.trans {X Y Z : Nat → Nat → Int32} (h : mRoot X Y) (h2 : mRoot Y Z) : mRoot X Z := fun s k hk => (h2 s k hk).trans (h s k hk)
end
section
/-! the reference: its tables -/
theorem sm_clearWays_in {I : tkI} {J : tkJ} {R : Nat → Nat} {Q : tkQ} {n a : Nat} (hn : n ≤ 16) (ha : a < n) (hK : ∀ r, cwP n a n r → tkDn tm_148 (43, [some (.inr (.inr (6, 0, 0))), some (.inl (nI n)), some (.inl (nI a)), some (.inl (nI n))], [], (I, tk_so J 6 0 (tk_u1 (J 6 0) 21 r), R)) Q) : ∀ m c r, c + m = n → cwP n a c r → tkDn tm_148 (9, [some (.inr (.inr (6, 0, 0))), some (.inl (nI n)), some (.inl (nI a)), some (.inl (nI c))], [], (I, tk_so J 6 0 (tk_u1 (J 6 0) 21 r), R)) Q := by
  intro m
  induction m with
  | zero =>
    intro c r hc hr
    have hc : c = n := by omega
    subst hc
    show tkDn tm_148 (9, [some (.inr (.inr (6, 0, 0))), some (.inl (nI c)), some (.inl (nI a)), some (.inl (nI c))], [], (I, tk_so J 6 0 (tk_u1 (J 6 0) 21 r), R)) _
    refine dn_run 2 (show tkDn tm_148 (11, [some (.inr (.inr (6, 0, 0))), some (.inl (nI c)), some (.inl (nI a)), some (.inl (nI c))], [.inl (nI c), .inl (nI c)], (I, tk_so J 6 0 (tk_u1 (J 6 0) 21 r), R)) _ from ?_)
    refine dn_if rfl rfl rfl (fun (q : (nI c) ≤ (nI c)) => ?_) (fun (q : ¬ (nI c) ≤ (nI c)) => ?_)
    · show tkDn tm_148 (43, [some (.inr (.inr (6, 0, 0))), some (.inl (nI c)), some (.inl (nI a)), some (.inl (nI c))], [], (I, tk_so J 6 0 (tk_u1 (J 6 0) 21 r), R)) _
      exact hK r hr
    · exact absurd (nI_le (by omega) (by omega)) q
  | succ m ih =>
    intro c r hc hr
    show tkDn tm_148 (9, [some (.inr (.inr (6, 0, 0))), some (.inl (nI n)), some (.inl (nI a)), some (.inl (nI c))], [], (I, tk_so J 6 0 (tk_u1 (J 6 0) 21 r), R)) _
    refine dn_run 2 (show tkDn tm_148 (11, [some (.inr (.inr (6, 0, 0))), some (.inl (nI n)), some (.inl (nI a)), some (.inl (nI c))], [.inl (nI n), .inl (nI c)], (I, tk_so J 6 0 (tk_u1 (J 6 0) 21 r), R)) _ from ?_)
    refine dn_if rfl rfl rfl (fun (q : (nI n) ≤ (nI c)) => ?_) (fun (q : ¬ (nI n) ≤ (nI c)) => ?_)
    · exact absurd q (nI_ge (by omega) (by omega))
    · show tkDn tm_148 (14, [some (.inr (.inr (6, 0, 0))), some (.inl (nI n)), some (.inl (nI a)), some (.inl (nI c))], [], (I, tk_so J 6 0 (tk_u1 (J 6 0) 21 r), R)) _
      refine dn_run 9 (show tkDn tm_148 (26, [some (.inr (.inr (6, 0, 0))), some (.inl (nI n)), some (.inl (nI a)), some (.inl (nI c))], [.inl (nI c), .inl (nI a), .inl ((16 * (nI a)) + (nI c)), .inr (.inr (6, 0, 21))], (I, tk_so J 6 0 (tk_u1 (J 6 0) 21 r), R)) _ from ?_)
      refine dn_if rfl rfl rfl (fun (q2 : ¬ (nI a) = (nI c)) => ?_) (fun (q2 : (nI a) = (nI c)) => ?_)
      · show tkDn tm_148 (33, [some (.inr (.inr (6, 0, 0))), some (.inl (nI n)), some (.inl (nI a)), some (.inl (nI c))], [.inl ((16 * (nI a)) + (nI c)), .inr (.inr (6, 0, 21))], (I, tk_so J 6 0 (tk_u1 (J 6 0) 21 r), R)) _
        refine dn_run 4 (show (vp_in ((16 * (nI a)) + (nI c)) 256) ∧ tkDn tm_148 (9, [some (.inr (.inr (6, 0, 0))), some (.inl (nI n)), some (.inl (nI a)), some (.inl ((nI c) + 1))], [], (I, tk_so (tk_so J 6 0 (tk_u1 (J 6 0) 21 r)) 6 0 (tk_u2 (tk_u1 (J 6 0) 21 r) 21 (((16 * (nI a)) + (nI c)).toNatClampNeg) 4611686018427387904), R)) _ from ⟨by rw [ix16']; exact vp_in_nI (by omega) (by omega), ?_⟩)
        rw [tk_so_so]
        rw [tk_u2_u1, ix16', nI_clamp (show 16 * a + c < 2 ^ 31 by omega), nI_1]
        exact ih (c + 1) _ (by omega) (cwP_s hn (by omega) hr (by unfold d0M; rw [if_neg (fun z => q2 (by rw [z]))]))
      · show tkDn tm_148 (29, [some (.inr (.inr (6, 0, 0))), some (.inl (nI n)), some (.inl (nI a)), some (.inl (nI c))], [.inl ((16 * (nI a)) + (nI c)), .inr (.inr (6, 0, 21))], (I, tk_so J 6 0 (tk_u1 (J 6 0) 21 r), R)) _
        refine dn_run 5 (show (vp_in ((16 * (nI a)) + (nI c)) 256) ∧ tkDn tm_148 (9, [some (.inr (.inr (6, 0, 0))), some (.inl (nI n)), some (.inl (nI a)), some (.inl ((nI c) + 1))], [], (I, tk_so (tk_so J 6 0 (tk_u1 (J 6 0) 21 r)) 6 0 (tk_u2 (tk_u1 (J 6 0) 21 r) 21 (((16 * (nI a)) + (nI c)).toNatClampNeg) 0), R)) _ from ⟨by rw [ix16']; exact vp_in_nI (by omega) (by omega), ?_⟩)
        rw [tk_so_so]
        rw [tk_u2_u1, ix16', nI_clamp (show 16 * a + c < 2 ^ 31 by omega), nI_1]
        exact ih (c + 1) _ (by omega) (cwP_s hn (by omega) hr (by unfold d0M; rw [if_pos ((nI_eq (by omega) (by omega)).mp q2)]))
theorem sm_clearWays_out {I : tkI} {J : tkJ} {R : Nat → Nat} {Q : tkQ} {n : Nat} (hn : n ≤ 16) (hQ : ∀ r, RowP n r d0M → Q none (I, tk_so J 6 0 (tk_u1 (J 6 0) 21 r), R)) : ∀ m a r o, a + m = n → cwP n a 0 r → tkDn tm_148 (2, [some (.inr (.inr (6, 0, 0))), some (.inl (nI n)), some (.inl (nI a)), o], [], (I, tk_so J 6 0 (tk_u1 (J 6 0) 21 r), R)) Q := by
  intro m
  induction m with
  | zero =>
    intro a r o ha hr
    show tkDn tm_148 (2, [some (.inr (.inr (6, 0, 0))), some (.inl (nI n)), some (.inl (nI a)), o], [], (I, tk_so J 6 0 (tk_u1 (J 6 0) 21 r), R)) _
    refine dn_run 2 (show tkDn tm_148 (4, [some (.inr (.inr (6, 0, 0))), some (.inl (nI n)), some (.inl (nI a)), o], [.inl (nI n), .inl (nI a)], (I, tk_so J 6 0 (tk_u1 (J 6 0) 21 r), R)) _ from ?_)
    refine dn_if rfl rfl rfl (fun (q : (nI n) ≤ (nI a)) => ?_) (fun (q : ¬ (nI n) ≤ (nI a)) => ?_)
    · show tkDn tm_148 (49, [some (.inr (.inr (6, 0, 0))), some (.inl (nI n)), some (.inl (nI a)), o], [], (I, tk_so J 6 0 (tk_u1 (J 6 0) 21 r), R)) _
      refine dn_ret0 rfl rfl rfl rfl ?_
      exact hQ r (fun i j hi hj => hr i j hj (Or.inl (by omega)))
    · exact absurd (nI_le (by omega) (by omega)) q
  | succ m ih =>
    intro a r o ha hr
    show tkDn tm_148 (2, [some (.inr (.inr (6, 0, 0))), some (.inl (nI n)), some (.inl (nI a)), o], [], (I, tk_so J 6 0 (tk_u1 (J 6 0) 21 r), R)) _
    refine dn_run 2 (show tkDn tm_148 (4, [some (.inr (.inr (6, 0, 0))), some (.inl (nI n)), some (.inl (nI a)), o], [.inl (nI n), .inl (nI a)], (I, tk_so J 6 0 (tk_u1 (J 6 0) 21 r), R)) _ from ?_)
    refine dn_if rfl rfl rfl (fun (q : (nI n) ≤ (nI a)) => ?_) (fun (q : ¬ (nI n) ≤ (nI a)) => ?_)
    · exact absurd q (nI_ge (by omega) (by omega))
    · show tkDn tm_148 (7, [some (.inr (.inr (6, 0, 0))), some (.inl (nI n)), some (.inl (nI a)), o], [], (I, tk_so J 6 0 (tk_u1 (J 6 0) 21 r), R)) _
      refine dn_run 2 (show tkDn tm_148 (9, [some (.inr (.inr (6, 0, 0))), some (.inl (nI n)), some (.inl (nI a)), some (.inl 0)], [], (I, tk_so J 6 0 (tk_u1 (J 6 0) 21 r), R)) _ from ?_)
      refine sm_clearWays_in hn (by omega) (fun r2 hr2 => ?_) n 0 r (Nat.zero_add _) hr
      show tkDn tm_148 (43, [some (.inr (.inr (6, 0, 0))), some (.inl (nI n)), some (.inl (nI a)), some (.inl (nI n))], [], (I, tk_so J 6 0 (tk_u1 (J 6 0) 21 r2), R)) _
      refine dn_run 2 (show tkDn tm_148 (2, [some (.inr (.inr (6, 0, 0))), some (.inl (nI n)), some (.inl ((nI a) + 1)), some (.inl (nI n))], [], (I, tk_so J 6 0 (tk_u1 (J 6 0) 21 r2), R)) _ from ?_)
      rw [nI_1]
      exact ih (a + 1) r2 _ (by omega) (fun i j hj hij => hr2 i j hj (by omega))
theorem sm_clearWays {I : tkI} {J : tkJ} {R : Nat → Nat} {Q : tkQ} {n : Nat} (hn : n ≤ 16) (hQ : ∀ r, RowP n r d0M → Q none (I, tk_so J 6 0 (tk_u1 (J 6 0) 21 r), R)) : tkDn tm_148 (0, [some (.inr (.inr (6, 0, 0))), some (.inl (nI n)), none, none], [], (I, J, R)) Q := by
  refine dn_run 2 (show tkDn tm_148 (2, [some (.inr (.inr (6, 0, 0))), some (.inl (nI n)), some (.inl 0), none], [], (I, J, R)) _ from ?_)
  have := sm_clearWays_out (J := J) hn hQ n 0 (J 6 0 21) none (Nat.zero_add _) (fun i j _ h => absurd h (by omega))
  rw [jr_id] at this
  exact this
theorem sm_step {I : tkI} {J : tkJ} {R : Nat → Nat} {Q : tkQ} {a c : Nat} {y : Int64} (ha : a < 16) (hc : c < 16) (hQ : Q none (I, tk_so J 6 0 (tk_u1 (J 6 0) 21 (low1 (J 6 0 21) (16 * a + c) y)), R)) : tkDn tm_149 (0, [some (.inr (.inr (6, 0, 0))), some (.inl (nI a)), some (.inl (nI c)), some (.inr (.inl y)), none], [], (I, J, R)) Q := by
  refine dn_run 17 (show (vp_in ((16 * (nI a)) + (nI c)) 256) ∧ tkDn tm_149 (23, [some (.inr (.inr (6, 0, 0))), some (.inl (nI a)), some (.inl (nI c)), some (.inr (.inl y)), none], [.inl (lg_cmp y (J 6 0 21 (((16 * (nI a)) + (nI c)).toNatClampNeg))), .inl ((16 * (nI a)) + (nI c)), .inr (.inr (6, 0, 21))], (I, J, R)) _ from ⟨by rw [ix16']; exact vp_in_nI (by omega) (by omega), ?_⟩)
  refine dn_if rfl rfl rfl (fun (q : 0 ≤ (lg_cmp y (J 6 0 21 (((16 * (nI a)) + (nI c)).toNatClampNeg)))) => ?_) (fun (q : ¬ 0 ≤ (lg_cmp y (J 6 0 21 (((16 * (nI a)) + (nI c)).toNatClampNeg)))) => ?_)
  · show tkDn tm_149 (30, [some (.inr (.inr (6, 0, 0))), some (.inl (nI a)), some (.inl (nI c)), some (.inr (.inl y)), none], [.inl ((16 * (nI a)) + (nI c)), .inr (.inr (6, 0, 21))], (I, J, R)) _
    refine dn_run 9 (show (vp_in ((16 * (nI a)) + (nI c)) 256) ∧ (vp_in ((16 * (nI a)) + (nI c)) 256) ∧ tkDn tm_149 (42, [some (.inr (.inr (6, 0, 0))), some (.inl (nI a)), some (.inl (nI c)), some (.inr (.inl y)), none], [], (I, tk_so J 6 0 (tk_u2 (J 6 0) 21 (((16 * (nI a)) + (nI c)).toNatClampNeg) (J 6 0 21 (((16 * (nI a)) + (nI c)).toNatClampNeg))), R)) _ from ⟨by rw [ix16']; exact vp_in_nI (by omega) (by omega), by rw [ix16']; exact vp_in_nI (by omega) (by omega), ?_⟩)
    rw [ix16', nI_clamp (show 16 * a + c < 2 ^ 31 by omega)]
    rw [ix16', nI_clamp (show 16 * a + c < 2 ^ 31 by omega)] at q
    rw [← low1', if_neg (Int64.not_lt.mpr ((lg_cmp_ge _ _).mp q))] at hQ
    refine dn_ret0 rfl rfl rfl rfl ?_
    exact hQ
  · show tkDn tm_149 (26, [some (.inr (.inr (6, 0, 0))), some (.inl (nI a)), some (.inl (nI c)), some (.inr (.inl y)), none], [.inl ((16 * (nI a)) + (nI c)), .inr (.inr (6, 0, 21))], (I, J, R)) _
    refine dn_run 3 (show (vp_in ((16 * (nI a)) + (nI c)) 256) ∧ tkDn tm_149 (42, [some (.inr (.inr (6, 0, 0))), some (.inl (nI a)), some (.inl (nI c)), some (.inr (.inl y)), none], [], (I, tk_so J 6 0 (tk_u2 (J 6 0) 21 (((16 * (nI a)) + (nI c)).toNatClampNeg) y), R)) _ from ⟨by rw [ix16']; exact vp_in_nI (by omega) (by omega), ?_⟩)
    rw [ix16', nI_clamp (show 16 * a + c < 2 ^ 31 by omega)]
    rw [ix16', nI_clamp (show 16 * a + c < 2 ^ 31 by omega)] at q
    rw [← low1', if_pos (Int64.not_le.mp (fun t => q ((lg_cmp_ge _ _).mpr t)))] at hQ
    refine dn_ret0 rfl rfl rfl rfl ?_
    exact hQ
theorem sm_closes_b {I : tkI} {J : tkJ} {R : Nat → Nat} {Q : tkQ} {d : tkD} {n a k : Nat} (hn : n ≤ 16) (ha : a < n) (hk : k < n) (hK : ∀ r o, RowP n r (mvM d a k n) → tkDn tm_150 (97, [some (.inr (.inr (6, 0, 0))), some (.inl (nI n)), some (.inl (nI k)), some (.inl (nI a)), o], [], (I, tk_so J 6 0 (tk_u1 (J 6 0) 21 r), R)) Q) : ∀ m c r, c + m = n → RowP n r (mvM d a k c) → tkDn tm_150 (17, [some (.inr (.inr (6, 0, 0))), some (.inl (nI n)), some (.inl (nI k)), some (.inl (nI a)), some (.inl (nI c))], [], (I, tk_so J 6 0 (tk_u1 (J 6 0) 21 r), R)) Q := by
  intro m
  induction m with
  | zero =>
    intro c r hc hr
    show tkDn tm_150 (17, [some (.inr (.inr (6, 0, 0))), some (.inl (nI n)), some (.inl (nI k)), some (.inl (nI a)), some (.inl (nI c))], [], (I, tk_so J 6 0 (tk_u1 (J 6 0) 21 r), R)) _
    refine dn_run 2 (show tkDn tm_150 (20, [some (.inr (.inr (6, 0, 0))), some (.inl (nI n)), some (.inl (nI k)), some (.inl (nI a)), some (.inl (nI c))], [.inl (nI n), .inl (nI c)], (I, tk_so J 6 0 (tk_u1 (J 6 0) 21 r), R)) _ from ?_)
    refine dn_if rfl rfl rfl (fun (q : (nI n) ≤ (nI c)) => ?_) (fun (q : ¬ (nI n) ≤ (nI c)) => ?_)
    · show tkDn tm_150 (97, [some (.inr (.inr (6, 0, 0))), some (.inl (nI n)), some (.inl (nI k)), some (.inl (nI a)), some (.inl (nI c))], [], (I, tk_so J 6 0 (tk_u1 (J 6 0) 21 r), R)) _
      have hc : c = n := by omega
      subst hc
      exact hK r _ hr
    · exact absurd (nI_le (by omega) (by omega)) q
  | succ m ih =>
    intro c r hc hr
    show tkDn tm_150 (17, [some (.inr (.inr (6, 0, 0))), some (.inl (nI n)), some (.inl (nI k)), some (.inl (nI a)), some (.inl (nI c))], [], (I, tk_so J 6 0 (tk_u1 (J 6 0) 21 r), R)) _
    refine dn_run 2 (show tkDn tm_150 (20, [some (.inr (.inr (6, 0, 0))), some (.inl (nI n)), some (.inl (nI k)), some (.inl (nI a)), some (.inl (nI c))], [.inl (nI n), .inl (nI c)], (I, tk_so J 6 0 (tk_u1 (J 6 0) 21 r), R)) _ from ?_)
    refine dn_if rfl rfl rfl (fun (q : (nI n) ≤ (nI c)) => ?_) (fun (q : ¬ (nI n) ≤ (nI c)) => ?_)
    · exact absurd q (nI_ge (by omega) (by omega))
    · show tkDn tm_150 (23, [some (.inr (.inr (6, 0, 0))), some (.inl (nI n)), some (.inl (nI k)), some (.inl (nI a)), some (.inl (nI c))], [], (I, tk_so J 6 0 (tk_u1 (J 6 0) 21 r), R)) _
      refine dn_run 10 (show (vp_in ((16 * (nI a)) + (nI k)) 256) ∧ tkDn tm_150 (38, [some (.inr (.inr (6, 0, 0))), some (.inl (nI n)), some (.inl (nI k)), some (.inl (nI a)), some (.inl (nI c))], [.inl (lg_cmp (r (((16 * (nI a)) + (nI k)).toNatClampNeg)) 4611686018427387904)], (I, tk_so J 6 0 (tk_u1 (J 6 0) 21 r), R)) _ from ⟨by rw [ix16']; exact vp_in_nI (by omega) (by omega), ?_⟩)
      rw [ix16', hr.at hn (by omega) (by omega)]
      refine dn_if rfl rfl rfl (fun (q1 : (lg_cmp (mvM d a k c a k) 4611686018427387904) = 0) => ?_) (fun (q1 : ¬ (lg_cmp (mvM d a k c a k) 4611686018427387904) = 0) => ?_)
      · show tkDn tm_150 (97, [some (.inr (.inr (6, 0, 0))), some (.inl (nI n)), some (.inl (nI k)), some (.inl (nI a)), some (.inl (nI c))], [], (I, tk_so J 6 0 (tk_u1 (J 6 0) 21 r), R)) _
        have e := mvM_stay ((lg_cmp_eq _ _).mp q1) (m + 1)
        rw [show c + (m + 1) = n by omega] at e
        exact hK r _ (by rw [e]; exact hr)
      · show tkDn tm_150 (41, [some (.inr (.inr (6, 0, 0))), some (.inl (nI n)), some (.inl (nI k)), some (.inl (nI a)), some (.inl (nI c))], [], (I, tk_so J 6 0 (tk_u1 (J 6 0) 21 r), R)) _
        have q1 : ¬ mvM d a k c a k = 4611686018427387904 := fun z => q1 ((lg_cmp_eq _ _).mpr z)
        refine dn_run 10 (show (vp_in ((16 * (nI k)) + (nI c)) 256) ∧ tkDn tm_150 (57, [some (.inr (.inr (6, 0, 0))), some (.inl (nI n)), some (.inl (nI k)), some (.inl (nI a)), some (.inl (nI c))], [.inl (lg_cmp (r (((16 * (nI k)) + (nI c)).toNatClampNeg)) 4611686018427387904)], (I, tk_so J 6 0 (tk_u1 (J 6 0) 21 r), R)) _ from ⟨by rw [ix16']; exact vp_in_nI (by omega) (by omega), ?_⟩)
        rw [ix16', hr.at hn (by omega) (by omega)]
        refine dn_if rfl rfl rfl (fun (q2 : (lg_cmp (mvM d a k c k c) 4611686018427387904) = 0) => ?_) (fun (q2 : ¬ (lg_cmp (mvM d a k c k c) 4611686018427387904) = 0) => ?_)
        · show tkDn tm_150 (91, [some (.inr (.inr (6, 0, 0))), some (.inl (nI n)), some (.inl (nI k)), some (.inl (nI a)), some (.inl (nI c))], [], (I, tk_so J 6 0 (tk_u1 (J 6 0) 21 r), R)) _
          refine dn_run 2 (show tkDn tm_150 (17, [some (.inr (.inr (6, 0, 0))), some (.inl (nI n)), some (.inl (nI k)), some (.inl (nI a)), some (.inl ((nI c) + 1))], [], (I, tk_so J 6 0 (tk_u1 (J 6 0) 21 r), R)) _ from ?_)
          rw [nI_1]
          exact ih (c + 1) r (by omega) (by rw [show mvM d a k (c + 1) = mvM d a k c by show (if mvM d a k c a k = _ then _ else _) = _; rw [if_neg q1, if_pos ((lg_cmp_eq _ _).mp q2)]]; exact hr)
        · show tkDn tm_150 (60, [some (.inr (.inr (6, 0, 0))), some (.inl (nI n)), some (.inl (nI k)), some (.inl (nI a)), some (.inl (nI c))], [], (I, tk_so J 6 0 (tk_u1 (J 6 0) 21 r), R)) _
          have q2 : ¬ mvM d a k c k c = 4611686018427387904 := fun z => q2 ((lg_cmp_eq _ _).mpr z)
          refine dn_run 20 (show (vp_in ((16 * (nI a)) + (nI k)) 256) ∧ (vp_in ((16 * (nI k)) + (nI c)) 256) ∧ tkDn tm_150 (88, [some (.inr (.inr (6, 0, 0))), some (.inl (nI n)), some (.inl (nI k)), some (.inl (nI a)), some (.inl (nI c))], [.inr (.inl ((r (((16 * (nI a)) + (nI k)).toNatClampNeg)) + (r (((16 * (nI k)) + (nI c)).toNatClampNeg)))), .inl (nI c), .inl (nI a), .inr (.inr (6, 0, 0))], (I, tk_so J 6 0 (tk_u1 (J 6 0) 21 r), R)) _ from ⟨by rw [ix16']; exact vp_in_nI (by omega) (by omega), by rw [ix16']; exact vp_in_nI (by omega) (by omega), ?_⟩)
          rw [ix16', ix16', hr.at hn ha hk, hr.at hn hk (by omega)]
          show tkDn tm_150 (88, [some (.inr (.inr (6, 0, 0))), some (.inl (nI n)), some (.inl (nI k)), some (.inl (nI a)), some (.inl (nI c))], [.inr (.inl (mvM d a k c a k + mvM d a k c k c)), .inl (nI c), .inl (nI a), .inr (.inr (6, 0, 0))], (I, tk_so J 6 0 (tk_u1 (J 6 0) 21 r), R)) _
          refine dn_call rfl rfl rfl rfl rfl (sm_step (by omega) (by omega) ?_)
          rw [tk_so_so, tk_so_same, tk_u1_u1, tk_u1_same]
          show tkDn tm_150 (91, [some (.inr (.inr (6, 0, 0))), some (.inl (nI n)), some (.inl (nI k)), some (.inl (nI a)), some (.inl (nI c))], [], (I, tk_so J 6 0 (tk_u1 (J 6 0) 21 (low1 r (16 * a + c) (mvM d a k c a k + mvM d a k c k c))), R)) _
          refine dn_run 2 (show tkDn tm_150 (17, [some (.inr (.inr (6, 0, 0))), some (.inl (nI n)), some (.inl (nI k)), some (.inl (nI a)), some (.inl ((nI c) + 1))], [], (I, tk_so J 6 0 (tk_u1 (J 6 0) 21 (low1 r (16 * a + c) (mvM d a k c a k + mvM d a k c k c))), R)) _ from ?_)
          rw [nI_1]
          exact ih (c + 1) _ (by omega) (by rw [show mvM d a k (c + 1) = lowM (mvM d a k c) a c (mvM d a k c a k + mvM d a k c k c) by show (if mvM d a k c a k = _ then _ else _) = _; rw [if_neg q1, if_neg q2]]; exact hr.low hn ha (by omega))
theorem sm_closes_a {I : tkI} {J : tkJ} {R : Nat → Nat} {Q : tkQ} {d : tkD} {n k : Nat} (hn : n ≤ 16) (hk : k < n) (hK : ∀ r o, RowP n r (mwM d k n n) → tkDn tm_150 (103, [some (.inr (.inr (6, 0, 0))), some (.inl (nI n)), some (.inl (nI k)), some (.inl (nI n)), o], [], (I, tk_so J 6 0 (tk_u1 (J 6 0) 21 r), R)) Q) : ∀ m a r o, a + m = n → RowP n r (mwM d k n a) → tkDn tm_150 (9, [some (.inr (.inr (6, 0, 0))), some (.inl (nI n)), some (.inl (nI k)), some (.inl (nI a)), o], [], (I, tk_so J 6 0 (tk_u1 (J 6 0) 21 r), R)) Q := by
  intro m
  induction m with
  | zero =>
    intro a r o ha hr
    have ha : a = n := by omega
    subst ha
    show tkDn tm_150 (9, [some (.inr (.inr (6, 0, 0))), some (.inl (nI a)), some (.inl (nI k)), some (.inl (nI a)), o], [], (I, tk_so J 6 0 (tk_u1 (J 6 0) 21 r), R)) _
    refine dn_run 2 (show tkDn tm_150 (11, [some (.inr (.inr (6, 0, 0))), some (.inl (nI a)), some (.inl (nI k)), some (.inl (nI a)), o], [.inl (nI a), .inl (nI a)], (I, tk_so J 6 0 (tk_u1 (J 6 0) 21 r), R)) _ from ?_)
    refine dn_if rfl rfl rfl (fun (q : (nI a) ≤ (nI a)) => ?_) (fun (q : ¬ (nI a) ≤ (nI a)) => ?_)
    · show tkDn tm_150 (103, [some (.inr (.inr (6, 0, 0))), some (.inl (nI a)), some (.inl (nI k)), some (.inl (nI a)), o], [], (I, tk_so J 6 0 (tk_u1 (J 6 0) 21 r), R)) _
      exact hK r _ hr
    · exact absurd (nI_le (by omega) (by omega)) q
  | succ m ih =>
    intro a r o ha hr
    show tkDn tm_150 (9, [some (.inr (.inr (6, 0, 0))), some (.inl (nI n)), some (.inl (nI k)), some (.inl (nI a)), o], [], (I, tk_so J 6 0 (tk_u1 (J 6 0) 21 r), R)) _
    refine dn_run 2 (show tkDn tm_150 (11, [some (.inr (.inr (6, 0, 0))), some (.inl (nI n)), some (.inl (nI k)), some (.inl (nI a)), o], [.inl (nI n), .inl (nI a)], (I, tk_so J 6 0 (tk_u1 (J 6 0) 21 r), R)) _ from ?_)
    refine dn_if rfl rfl rfl (fun (q : (nI n) ≤ (nI a)) => ?_) (fun (q : ¬ (nI n) ≤ (nI a)) => ?_)
    · exact absurd q (nI_ge (by omega) (by omega))
    · show tkDn tm_150 (14, [some (.inr (.inr (6, 0, 0))), some (.inl (nI n)), some (.inl (nI k)), some (.inl (nI a)), o], [], (I, tk_so J 6 0 (tk_u1 (J 6 0) 21 r), R)) _
      refine dn_run 2 (show tkDn tm_150 (17, [some (.inr (.inr (6, 0, 0))), some (.inl (nI n)), some (.inl (nI k)), some (.inl (nI a)), some (.inl 0)], [], (I, tk_so J 6 0 (tk_u1 (J 6 0) 21 r), R)) _ from ?_)
      refine sm_closes_b (d := mwM d k n a) hn (by omega) hk (fun r2 o2 hr2 => ?_) n 0 r (Nat.zero_add _) hr
      show tkDn tm_150 (97, [some (.inr (.inr (6, 0, 0))), some (.inl (nI n)), some (.inl (nI k)), some (.inl (nI a)), o2], [], (I, tk_so J 6 0 (tk_u1 (J 6 0) 21 r2), R)) _
      refine dn_run 2 (show tkDn tm_150 (9, [some (.inr (.inr (6, 0, 0))), some (.inl (nI n)), some (.inl (nI k)), some (.inl ((nI a) + 1)), o2], [], (I, tk_so J 6 0 (tk_u1 (J 6 0) 21 r2), R)) _ from ?_)
      rw [nI_1]
      exact ih (a + 1) r2 _ (by omega) hr2
theorem sm_closes_k {I : tkI} {J : tkJ} {R : Nat → Nat} {Q : tkQ} {d : tkD} {n : Nat} (hn : n ≤ 16) (hK : ∀ r o o2, RowP n r (mcM d n n) → tkDn tm_150 (109, [some (.inr (.inr (6, 0, 0))), some (.inl (nI n)), some (.inl (nI n)), o, o2], [], (I, tk_so J 6 0 (tk_u1 (J 6 0) 21 r), R)) Q) : ∀ m k r o o2, k + m = n → RowP n r (mcM d n k) → tkDn tm_150 (2, [some (.inr (.inr (6, 0, 0))), some (.inl (nI n)), some (.inl (nI k)), o, o2], [], (I, tk_so J 6 0 (tk_u1 (J 6 0) 21 r), R)) Q := by
  intro m
  induction m with
  | zero =>
    intro k r o o2 hk hr
    have hk : k = n := by omega
    subst hk
    show tkDn tm_150 (2, [some (.inr (.inr (6, 0, 0))), some (.inl (nI k)), some (.inl (nI k)), o, o2], [], (I, tk_so J 6 0 (tk_u1 (J 6 0) 21 r), R)) _
    refine dn_run 2 (show tkDn tm_150 (4, [some (.inr (.inr (6, 0, 0))), some (.inl (nI k)), some (.inl (nI k)), o, o2], [.inl (nI k), .inl (nI k)], (I, tk_so J 6 0 (tk_u1 (J 6 0) 21 r), R)) _ from ?_)
    refine dn_if rfl rfl rfl (fun (q : (nI k) ≤ (nI k)) => ?_) (fun (q : ¬ (nI k) ≤ (nI k)) => ?_)
    · show tkDn tm_150 (109, [some (.inr (.inr (6, 0, 0))), some (.inl (nI k)), some (.inl (nI k)), o, o2], [], (I, tk_so J 6 0 (tk_u1 (J 6 0) 21 r), R)) _
      exact hK r _ _ hr
    · exact absurd (nI_le (by omega) (by omega)) q
  | succ m ih =>
    intro k r o o2 hk hr
    show tkDn tm_150 (2, [some (.inr (.inr (6, 0, 0))), some (.inl (nI n)), some (.inl (nI k)), o, o2], [], (I, tk_so J 6 0 (tk_u1 (J 6 0) 21 r), R)) _
    refine dn_run 2 (show tkDn tm_150 (4, [some (.inr (.inr (6, 0, 0))), some (.inl (nI n)), some (.inl (nI k)), o, o2], [.inl (nI n), .inl (nI k)], (I, tk_so J 6 0 (tk_u1 (J 6 0) 21 r), R)) _ from ?_)
    refine dn_if rfl rfl rfl (fun (q : (nI n) ≤ (nI k)) => ?_) (fun (q : ¬ (nI n) ≤ (nI k)) => ?_)
    · exact absurd q (nI_ge (by omega) (by omega))
    · show tkDn tm_150 (7, [some (.inr (.inr (6, 0, 0))), some (.inl (nI n)), some (.inl (nI k)), o, o2], [], (I, tk_so J 6 0 (tk_u1 (J 6 0) 21 r), R)) _
      refine dn_run 2 (show tkDn tm_150 (9, [some (.inr (.inr (6, 0, 0))), some (.inl (nI n)), some (.inl (nI k)), some (.inl 0), o2], [], (I, tk_so J 6 0 (tk_u1 (J 6 0) 21 r), R)) _ from ?_)
      refine sm_closes_a (d := mcM d n k) hn (by omega) (fun r2 o3 hr2 => ?_) n 0 r _ (Nat.zero_add _) hr
      show tkDn tm_150 (103, [some (.inr (.inr (6, 0, 0))), some (.inl (nI n)), some (.inl (nI k)), some (.inl (nI n)), o3], [], (I, tk_so J 6 0 (tk_u1 (J 6 0) 21 r2), R)) _
      refine dn_run 2 (show tkDn tm_150 (2, [some (.inr (.inr (6, 0, 0))), some (.inl (nI n)), some (.inl ((nI k) + 1)), some (.inl (nI n)), o3], [], (I, tk_so J 6 0 (tk_u1 (J 6 0) 21 r2), R)) _ from ?_)
      rw [nI_1]
      exact ih (k + 1) r2 _ _ (by omega) hr2
theorem sm_closes_g {I : tkI} {J : tkJ} {R : Nat → Nat} {Q : tkQ} {d : tkD} {n : Nat} {r : Nat → Int64} {o : Option tkV} (hn : n ≤ 16) (hr : RowP n r d) : ∀ m a (g : Int32), a + m = n → (g = 0 ∨ g = 1) → Q (some (.inl (if g = 1 ∧ negF d m a = false then 1 else 0))) (I, tk_so J 6 0 (tk_u1 (J 6 0) 21 r), R) → tkDn tm_150 (113, [some (.inr (.inr (6, 0, 0))), some (.inl (nI n)), some (.inl g), some (.inl (nI a)), o], [], (I, tk_so J 6 0 (tk_u1 (J 6 0) 21 r), R)) Q := by
  intro m
  induction m with
  | zero =>
    intro a g ha hg hQ
    show tkDn tm_150 (113, [some (.inr (.inr (6, 0, 0))), some (.inl (nI n)), some (.inl g), some (.inl (nI a)), o], [], (I, tk_so J 6 0 (tk_u1 (J 6 0) 21 r), R)) _
    refine dn_run 2 (show tkDn tm_150 (115, [some (.inr (.inr (6, 0, 0))), some (.inl (nI n)), some (.inl g), some (.inl (nI a)), o], [.inl (nI n), .inl (nI a)], (I, tk_so J 6 0 (tk_u1 (J 6 0) 21 r), R)) _ from ?_)
    refine dn_if rfl rfl rfl (fun (q : (nI n) ≤ (nI a)) => ?_) (fun (q : ¬ (nI n) ≤ (nI a)) => ?_)
    · show tkDn tm_150 (148, [some (.inr (.inr (6, 0, 0))), some (.inl (nI n)), some (.inl g), some (.inl (nI a)), o], [], (I, tk_so J 6 0 (tk_u1 (J 6 0) 21 r), R)) _
      refine dn_run 1 (show tkDn tm_150 (149, [some (.inr (.inr (6, 0, 0))), some (.inl (nI n)), some (.inl g), some (.inl (nI a)), o], [.inl g], (I, tk_so J 6 0 (tk_u1 (J 6 0) 21 r), R)) _ from ?_)
      refine dn_retb rfl rfl rfl rfl hg ?_
      rcases hg with rfl | rfl
      · exact hQ
      · exact hQ
    · exact absurd (nI_le (by omega) (by omega)) q
  | succ m ih =>
    intro a g ha hg hQ
    show tkDn tm_150 (113, [some (.inr (.inr (6, 0, 0))), some (.inl (nI n)), some (.inl g), some (.inl (nI a)), o], [], (I, tk_so J 6 0 (tk_u1 (J 6 0) 21 r), R)) _
    refine dn_run 2 (show tkDn tm_150 (115, [some (.inr (.inr (6, 0, 0))), some (.inl (nI n)), some (.inl g), some (.inl (nI a)), o], [.inl (nI n), .inl (nI a)], (I, tk_so J 6 0 (tk_u1 (J 6 0) 21 r), R)) _ from ?_)
    refine dn_if rfl rfl rfl (fun (q : (nI n) ≤ (nI a)) => ?_) (fun (q : ¬ (nI n) ≤ (nI a)) => ?_)
    · exact absurd q (nI_ge (by omega) (by omega))
    · show tkDn tm_150 (118, [some (.inr (.inr (6, 0, 0))), some (.inl (nI n)), some (.inl g), some (.inl (nI a)), o], [], (I, tk_so J 6 0 (tk_u1 (J 6 0) 21 r), R)) _
      refine dn_run 1 (show tkDn tm_150 (119, [some (.inr (.inr (6, 0, 0))), some (.inl (nI n)), some (.inl g), some (.inl (nI a)), o], [.inl g], (I, tk_so J 6 0 (tk_u1 (J 6 0) 21 r), R)) _ from ?_)
      refine dn_if rfl rfl rfl (fun (q1 : g = 0) => ?_) (fun (q1 : ¬ g = 0) => ?_)
      · show tkDn tm_150 (140, [some (.inr (.inr (6, 0, 0))), some (.inl (nI n)), some (.inl g), some (.inl (nI a)), o], [], (I, tk_so J 6 0 (tk_u1 (J 6 0) 21 r), R)) _
        refine dn_run 4 (show tkDn tm_150 (113, [some (.inr (.inr (6, 0, 0))), some (.inl (nI n)), some (.inl 0), some (.inl ((nI a) + 1)), o], [], (I, tk_so J 6 0 (tk_u1 (J 6 0) 21 r), R)) _ from ?_)
        rw [nI_1]
        refine ih (a + 1) 0 (by omega) (Or.inl rfl) ?_
        rw [if_neg (fun z => absurd z.1 (by rw [q1]; decide))] at hQ
        rw [if_neg (fun z => absurd z.1 (by decide))]
        exact hQ
      · show tkDn tm_150 (122, [some (.inr (.inr (6, 0, 0))), some (.inl (nI n)), some (.inl g), some (.inl (nI a)), o], [], (I, tk_so J 6 0 (tk_u1 (J 6 0) 21 r), R)) _
        have hg1 : g = 1 := hg.resolve_left q1
        refine dn_run 8 (show (vp_in (17 * (nI a)) 256) ∧ tkDn tm_150 (133, [some (.inr (.inr (6, 0, 0))), some (.inl (nI n)), some (.inl g), some (.inl (nI a)), o], [.inl (lg_cmp (r ((17 * (nI a)).toNatClampNeg)) 0)], (I, tk_so J 6 0 (tk_u1 (J 6 0) 21 r), R)) _ from ⟨by rw [ix17]; exact vp_in_nI (by omega) (by omega), ?_⟩)
        rw [ix17, hr.at hn (by omega) (by omega)]
        refine dn_if rfl rfl rfl (fun (q2 : (lg_cmp (d a a) 0) < 0) => ?_) (fun (q2 : ¬ (lg_cmp (d a a) 0) < 0) => ?_)
        · show tkDn tm_150 (140, [some (.inr (.inr (6, 0, 0))), some (.inl (nI n)), some (.inl g), some (.inl (nI a)), o], [], (I, tk_so J 6 0 (tk_u1 (J 6 0) 21 r), R)) _
          refine dn_run 4 (show tkDn tm_150 (113, [some (.inr (.inr (6, 0, 0))), some (.inl (nI n)), some (.inl 0), some (.inl ((nI a) + 1)), o], [], (I, tk_so J 6 0 (tk_u1 (J 6 0) 21 r), R)) _ from ?_)
          rw [nI_1]
          refine ih (a + 1) 0 (by omega) (Or.inl rfl) ?_
          rw [show negF d (m + 1) a = true from if_pos ((lg_cmp_lt _ _).mp q2), if_neg (fun z => absurd z.2 (by decide))] at hQ
          rw [if_neg (fun z => absurd z.1 (by decide))]
          exact hQ
        · show tkDn tm_150 (136, [some (.inr (.inr (6, 0, 0))), some (.inl (nI n)), some (.inl g), some (.inl (nI a)), o], [], (I, tk_so J 6 0 (tk_u1 (J 6 0) 21 r), R)) _
          refine dn_run 5 (show tkDn tm_150 (113, [some (.inr (.inr (6, 0, 0))), some (.inl (nI n)), some (.inl 1), some (.inl ((nI a) + 1)), o], [], (I, tk_so J 6 0 (tk_u1 (J 6 0) 21 r), R)) _ from ?_)
          rw [nI_1]
          refine ih (a + 1) 1 (by omega) (Or.inr rfl) ?_
          rw [show negF d (m + 1) a = negF d m (a + 1) from if_neg (fun z => q2 ((lg_cmp_lt _ _).mpr z)), hg1] at hQ
          exact hQ
theorem sm_closes {I : tkI} {J : tkJ} {R : Nat → Nat} {Q : tkQ} {d : tkD} {n : Nat} (hn : n ≤ 16) (hr : RowP n (J 6 0 21) d) (hQ : ∀ r, RowP n r (mcF d n).2 → Q (some (.inl (if (mcF d n).1 = true then 1 else 0))) (I, tk_so J 6 0 (tk_u1 (J 6 0) 21 r), R)) : tkDn tm_150 (0, [some (.inr (.inr (6, 0, 0))), some (.inl (nI n)), none, none, none], [], (I, J, R)) Q := by
  refine dn_run 2 (show tkDn tm_150 (2, [some (.inr (.inr (6, 0, 0))), some (.inl (nI n)), some (.inl 0), none, none], [], (I, J, R)) _ from ?_)
  have key := sm_closes_k (I := I) (J := J) (R := R) (Q := Q) (d := d) hn (fun r o o2 hr => ?_) n 0 (J 6 0 21) none none (Nat.zero_add _) hr
  · rw [jr_id] at key; exact key
  · show tkDn tm_150 (109, [some (.inr (.inr (6, 0, 0))), some (.inl (nI n)), some (.inl (nI n)), o, o2], [], (I, tk_so J 6 0 (tk_u1 (J 6 0) 21 r), R)) _
    refine dn_run 4 (show tkDn tm_150 (113, [some (.inr (.inr (6, 0, 0))), some (.inl (nI n)), some (.inl 1), some (.inl 0), o2], [], (I, tk_so J 6 0 (tk_u1 (J 6 0) 21 r), R)) _ from ?_)
    refine sm_closes_g hn hr n 0 1 (Nat.zero_add _) (Or.inr rfl) ?_
    have := hQ r hr
    unfold mcF at this
    dsimp only at this
    cases hb : negF (mcM d n n) n 0 with
    | true => rw [hb] at this; exact this
    | false => rw [hb] at this; exact this
end
section
/-! the reference: together, distance, strong, weak, spoiler -/
set_option maxRecDepth 8000 in
theorem sm_layLinks_loop {I : tkI} {J : tkJ} {R : Nat → Nat} {Q : tkQ} {S : tkS} (hP : NetP (I 6 0) S) (w : WF S) {k : Int32} (hQ : ∀ r, RowP (sM S) r (mlM S k (sL S)) → Q none (I, tk_so J 6 0 (tk_u1 (J 6 0) 21 r), R)) : ∀ n l r o3 o4 o5, l + n = sL S → RowP (sM S) r (mlM S k l) → tkDn tm_151 (10, [some (.inr (.inr (6, 0, 0))), some (.inl k), some (.inl (nI l)), o3, o4, o5], [], (I, tk_so J 6 0 (tk_u1 (J 6 0) 21 r), R)) Q := by
  have hM16 := w.1
  have hL60 := w.2.1
  have hG6 := w.2.2.1
  have hM := hP.m
  have hL := hP.l
  have hG := hP.g
  intro n
  induction n with
  | zero =>
    intro l r o3 o4 o5 hl hr
    show tkDn tm_151 (10, [some (.inr (.inr (6, 0, 0))), some (.inl k), some (.inl (nI l)), o3, o4, o5], [], (I, tk_so J 6 0 (tk_u1 (J 6 0) 21 r), R)) _
    refine dn_run 3 (show tkDn tm_151 (15, [some (.inr (.inr (6, 0, 0))), some (.inl k), some (.inl (nI l)), o3, o4, o5], [.inl (I 6 0 0 1), .inl (nI l)], (I, tk_so J 6 0 (tk_u1 (J 6 0) 21 r), R)) _ from ?_)
    rw [hL]
    refine dn_if rfl rfl rfl (fun (c : (nI (sL S)) ≤ (nI l)) => ?_) (fun (c : ¬ (nI (sL S)) ≤ (nI l)) => ?_)
    · show tkDn tm_151 (150, [some (.inr (.inr (6, 0, 0))), some (.inl k), some (.inl (nI l)), o3, o4, o5], [], (I, tk_so J 6 0 (tk_u1 (J 6 0) 21 r), R)) _
      refine dn_ret0 rfl rfl rfl rfl ?_
      rw [show l = sL S by omega] at hr
      exact hQ r hr
    · exact absurd (nI_le (by omega) (by omega)) c
  | succ n ih =>
    intro l r o3 o4 o5 hl hr
    have hf := w.fM (j := l) (by omega)
    have he := w.eM (j := l) (by omega)
    have e4 := hP.fr w (j := l) (by omega)
    have e5 := hP.en w (j := l) (by omega)
    have e6 := hP.lo w (j := l) (by omega)
    have e7 := hP.hi w (j := l) (by omega)
    have e8 := hP.gn w (j := l) (by omega)
    show tkDn tm_151 (10, [some (.inr (.inr (6, 0, 0))), some (.inl k), some (.inl (nI l)), o3, o4, o5], [], (I, tk_so J 6 0 (tk_u1 (J 6 0) 21 r), R)) _
    refine dn_run 3 (show tkDn tm_151 (15, [some (.inr (.inr (6, 0, 0))), some (.inl k), some (.inl (nI l)), o3, o4, o5], [.inl (I 6 0 0 1), .inl (nI l)], (I, tk_so J 6 0 (tk_u1 (J 6 0) 21 r), R)) _ from ?_)
    rw [hL]
    refine dn_if rfl rfl rfl (fun (c : (nI (sL S)) ≤ (nI l)) => ?_) (fun (c : ¬ (nI (sL S)) ≤ (nI l)) => ?_)
    · exact absurd c (nI_ge (by omega) (by omega))
    · show tkDn tm_151 (18, [some (.inr (.inr (6, 0, 0))), some (.inl k), some (.inl (nI l)), o3, o4, o5], [], (I, tk_so J 6 0 (tk_u1 (J 6 0) 21 r), R)) _
      refine dn_run 6 (show (vp_in (nI l) 60) ∧ tkDn tm_151 (26, [some (.inr (.inr (6, 0, 0))), some (.inl k), some (.inl (nI l)), some (.inl (I 6 0 8 ((nI l).toNatClampNeg))), o4, o5], [.inl k], (I, tk_so J 6 0 (tk_u1 (J 6 0) 21 r), R)) _ from ⟨vp_in_nI (by omega) (by omega), ?_⟩)
      rw [e8]
      show tkDn tm_151 (26, [some (.inr (.inr (6, 0, 0))), some (.inl k), some (.inl (nI l)), some (.inl (sgn S l)), o4, o5], [.inl k], (I, tk_so J 6 0 (tk_u1 (J 6 0) 21 r), R)) _
      refine dn_if rfl rfl rfl (fun (c1 : k < 0) => ?_) (fun (c1 : ¬ k < 0) => ?_)
      · show tkDn tm_151 (37, [some (.inr (.inr (6, 0, 0))), some (.inl k), some (.inl (nI l)), some (.inl (sgn S l)), o4, o5], [], (I, tk_so J 6 0 (tk_u1 (J 6 0) 21 r), R)) _
        refine dn_run 3 (show tkDn tm_151 (42, [some (.inr (.inr (6, 0, 0))), some (.inl k), some (.inl (nI l)), some (.inl (sgn S l)), some (.inl 0), o5], [.inl 0], (I, tk_so J 6 0 (tk_u1 (J 6 0) 21 r), R)) _ from ?_)
        refine dn_if rfl rfl rfl (fun (c3 : ((0 : Int32) = 0 : Prop)) => ?_) (fun (c3 : (¬ (0 : Int32) = 0 : Prop)) => ?_)
        · show tkDn tm_151 (58, [some (.inr (.inr (6, 0, 0))), some (.inl k), some (.inl (nI l)), some (.inl (sgn S l)), some (.inl 0), o5], [], (I, tk_so J 6 0 (tk_u1 (J 6 0) 21 r), R)) _
          refine dn_run 2 (show tkDn tm_151 (61, [some (.inr (.inr (6, 0, 0))), some (.inl k), some (.inl (nI l)), some (.inl (sgn S l)), some (.inl 0), some (.inl 0)], [], (I, tk_so J 6 0 (tk_u1 (J 6 0) 21 r), R)) _ from ?_)
          have hA : mlA S k l = shi S l := if_neg (fun q => absurd c1 (Int32.not_lt.mpr q.1.1))
          have hB : mlB S k l = -slo S l := if_neg (fun q => absurd c1 (Int32.not_lt.mpr q.1.1))
          refine dn_run 10 (show (vp_in (nI l) 60) ∧ (vp_in (nI l) 60) ∧ tkDn tm_151 (76, [some (.inr (.inr (6, 0, 0))), some (.inl k), some (.inl (nI l)), some (.inl (sgn S l)), some (.inl 0), some (.inl 0)], [.inl 0, .inl (I 6 0 5 ((nI l).toNatClampNeg)), .inl (I 6 0 4 ((nI l).toNatClampNeg)), .inr (.inr (6, 0, 0))], (I, tk_so J 6 0 (tk_u1 (J 6 0) 21 r), R)) _ from ⟨vp_in_nI (by omega) (by omega), vp_in_nI (by omega) (by omega), ?_⟩)
          rw [e4, e5]
          show tkDn tm_151 (76, [some (.inr (.inr (6, 0, 0))), some (.inl k), some (.inl (nI l)), some (.inl (sgn S l)), some (.inl 0), some (.inl 0)], [.inl 0, .inl (nI (se S l)), .inl (nI (sf S l)), .inr (.inr (6, 0, 0))], (I, tk_so J 6 0 (tk_u1 (J 6 0) 21 r), R)) _
          refine dn_if rfl rfl rfl (fun (cd : ((0 : Int32) = 0 : Prop)) => ?_) (fun (cd : (¬ (0 : Int32) = 0 : Prop)) => ?_)
          · show tkDn tm_151 (94, [some (.inr (.inr (6, 0, 0))), some (.inl k), some (.inl (nI l)), some (.inl (sgn S l)), some (.inl 0), some (.inl 0)], [.inl (nI (se S l)), .inl (nI (sf S l)), .inr (.inr (6, 0, 0))], (I, tk_so J 6 0 (tk_u1 (J 6 0) 21 r), R)) _
            refine dn_run 5 (show (vp_in (nI l) 60) ∧ tkDn tm_151 (101, [some (.inr (.inr (6, 0, 0))), some (.inl k), some (.inl (nI l)), some (.inl (sgn S l)), some (.inl 0), some (.inl 0)], [.inr (.inl (((I 6 0 7 ((nI l).toNatClampNeg)) : Int32).toInt64)), .inl (nI (se S l)), .inl (nI (sf S l)), .inr (.inr (6, 0, 0))], (I, tk_so J 6 0 (tk_u1 (J 6 0) 21 r), R)) _ from ⟨vp_in_nI (by omega) (by omega), ?_⟩)
            rw [e7]
            show tkDn tm_151 (101, [some (.inr (.inr (6, 0, 0))), some (.inl k), some (.inl (nI l)), some (.inl (sgn S l)), some (.inl 0), some (.inl 0)], [.inr (.inl ((shi S l).toInt64)), .inl (nI (se S l)), .inl (nI (sf S l)), .inr (.inr (6, 0, 0))], (I, tk_so J 6 0 (tk_u1 (J 6 0) 21 r), R)) _
            refine dn_call rfl rfl rfl rfl rfl (sm_step (by omega) (by omega) ?_)
            rw [tk_so_so, tk_so_same, tk_u1_u1, tk_u1_same, ← hA]
            show tkDn tm_151 (104, [some (.inr (.inr (6, 0, 0))), some (.inl k), some (.inl (nI l)), some (.inl (sgn S l)), some (.inl 0), some (.inl 0)], [], (I, tk_so J 6 0 (tk_u1 (J 6 0) 21 (low1 r (16 * sf S l + se S l) (mlA S k l).toInt64)), R)) _
            refine dn_run 10 (show (vp_in (nI l) 60) ∧ (vp_in (nI l) 60) ∧ tkDn tm_151 (119, [some (.inr (.inr (6, 0, 0))), some (.inl k), some (.inl (nI l)), some (.inl (sgn S l)), some (.inl 0), some (.inl 0)], [.inl 0, .inl (I 6 0 4 ((nI l).toNatClampNeg)), .inl (I 6 0 5 ((nI l).toNatClampNeg)), .inr (.inr (6, 0, 0))], (I, tk_so J 6 0 (tk_u1 (J 6 0) 21 (low1 r (16 * sf S l + se S l) (mlA S k l).toInt64)), R)) _ from ⟨vp_in_nI (by omega) (by omega), vp_in_nI (by omega) (by omega), ?_⟩)
            rw [e5, e4]
            show tkDn tm_151 (119, [some (.inr (.inr (6, 0, 0))), some (.inl k), some (.inl (nI l)), some (.inl (sgn S l)), some (.inl 0), some (.inl 0)], [.inl 0, .inl (nI (sf S l)), .inl (nI (se S l)), .inr (.inr (6, 0, 0))], (I, tk_so J 6 0 (tk_u1 (J 6 0) 21 (low1 r (16 * sf S l + se S l) (mlA S k l).toInt64)), R)) _
            refine dn_if rfl rfl rfl (fun (cc : ((0 : Int32) = 0 : Prop)) => ?_) (fun (cc : (¬ (0 : Int32) = 0 : Prop)) => ?_)
            · show tkDn tm_151 (133, [some (.inr (.inr (6, 0, 0))), some (.inl k), some (.inl (nI l)), some (.inl (sgn S l)), some (.inl 0), some (.inl 0)], [.inl (nI (sf S l)), .inl (nI (se S l)), .inr (.inr (6, 0, 0))], (I, tk_so J 6 0 (tk_u1 (J 6 0) 21 (low1 r (16 * sf S l + se S l) (mlA S k l).toInt64)), R)) _
              refine dn_run 6 (show (vp_in (nI l) 60) ∧ tkDn tm_151 (141, [some (.inr (.inr (6, 0, 0))), some (.inl k), some (.inl (nI l)), some (.inl (sgn S l)), some (.inl 0), some (.inl 0)], [.inr (.inl (((-(I 6 0 6 ((nI l).toNatClampNeg))) : Int32).toInt64)), .inl (nI (sf S l)), .inl (nI (se S l)), .inr (.inr (6, 0, 0))], (I, tk_so J 6 0 (tk_u1 (J 6 0) 21 (low1 r (16 * sf S l + se S l) (mlA S k l).toInt64)), R)) _ from ⟨vp_in_nI (by omega) (by omega), ?_⟩)
              rw [e6]
              show tkDn tm_151 (141, [some (.inr (.inr (6, 0, 0))), some (.inl k), some (.inl (nI l)), some (.inl (sgn S l)), some (.inl 0), some (.inl 0)], [.inr (.inl ((-slo S l).toInt64)), .inl (nI (sf S l)), .inl (nI (se S l)), .inr (.inr (6, 0, 0))], (I, tk_so J 6 0 (tk_u1 (J 6 0) 21 (low1 r (16 * sf S l + se S l) (mlA S k l).toInt64)), R)) _
              refine dn_call rfl rfl rfl rfl rfl (sm_step (by omega) (by omega) ?_)
              rw [tk_so_so, tk_so_same, tk_u1_u1, tk_u1_same, ← hB]
              show tkDn tm_151 (144, [some (.inr (.inr (6, 0, 0))), some (.inl k), some (.inl (nI l)), some (.inl (sgn S l)), some (.inl 0), some (.inl 0)], [], (I, tk_so J 6 0 (tk_u1 (J 6 0) 21 (low1 (low1 r (16 * sf S l + se S l) (mlA S k l).toInt64) (16 * se S l + sf S l) (mlB S k l).toInt64)), R)) _
              refine dn_run 2 (show tkDn tm_151 (10, [some (.inr (.inr (6, 0, 0))), some (.inl k), some (.inl ((nI l) + 1)), some (.inl (sgn S l)), some (.inl 0), some (.inl 0)], [], (I, tk_so J 6 0 (tk_u1 (J 6 0) 21 (low1 (low1 r (16 * sf S l + se S l) (mlA S k l).toInt64) (16 * se S l + sf S l) (mlB S k l).toInt64)), R)) _ from ?_)
              rw [nI_1]
              exact ih (l + 1) _ _ _ _ (by omega) ((hr.low (by omega) hf he).low (by omega) he hf)
            · exact absurd rfl cc
          · exact absurd rfl cd
        · exact absurd rfl c3
      · show tkDn tm_151 (29, [some (.inr (.inr (6, 0, 0))), some (.inl k), some (.inl (nI l)), some (.inl (sgn S l)), o4, o5], [], (I, tk_so J 6 0 (tk_u1 (J 6 0) 21 r), R)) _
        refine dn_run 1 (show tkDn tm_151 (30, [some (.inr (.inr (6, 0, 0))), some (.inl k), some (.inl (nI l)), some (.inl (sgn S l)), o4, o5], [.inl (sgn S l)], (I, tk_so J 6 0 (tk_u1 (J 6 0) 21 r), R)) _ from ?_)
        refine dn_if rfl rfl rfl (fun (c2 : (sgn S l) < 0) => ?_) (fun (c2 : ¬ (sgn S l) < 0) => ?_)
        · show tkDn tm_151 (37, [some (.inr (.inr (6, 0, 0))), some (.inl k), some (.inl (nI l)), some (.inl (sgn S l)), o4, o5], [], (I, tk_so J 6 0 (tk_u1 (J 6 0) 21 r), R)) _
          refine dn_run 3 (show tkDn tm_151 (42, [some (.inr (.inr (6, 0, 0))), some (.inl k), some (.inl (nI l)), some (.inl (sgn S l)), some (.inl 0), o5], [.inl 0], (I, tk_so J 6 0 (tk_u1 (J 6 0) 21 r), R)) _ from ?_)
          refine dn_if rfl rfl rfl (fun (c3 : ((0 : Int32) = 0 : Prop)) => ?_) (fun (c3 : (¬ (0 : Int32) = 0 : Prop)) => ?_)
          · show tkDn tm_151 (58, [some (.inr (.inr (6, 0, 0))), some (.inl k), some (.inl (nI l)), some (.inl (sgn S l)), some (.inl 0), o5], [], (I, tk_so J 6 0 (tk_u1 (J 6 0) 21 r), R)) _
            refine dn_run 2 (show tkDn tm_151 (61, [some (.inr (.inr (6, 0, 0))), some (.inl k), some (.inl (nI l)), some (.inl (sgn S l)), some (.inl 0), some (.inl 0)], [], (I, tk_so J 6 0 (tk_u1 (J 6 0) 21 r), R)) _ from ?_)
            have hA : mlA S k l = shi S l := if_neg (fun q => absurd c2 (Int32.not_lt.mpr q.1.2))
            have hB : mlB S k l = -slo S l := if_neg (fun q => absurd c2 (Int32.not_lt.mpr q.1.2))
            refine dn_run 10 (show (vp_in (nI l) 60) ∧ (vp_in (nI l) 60) ∧ tkDn tm_151 (76, [some (.inr (.inr (6, 0, 0))), some (.inl k), some (.inl (nI l)), some (.inl (sgn S l)), some (.inl 0), some (.inl 0)], [.inl 0, .inl (I 6 0 5 ((nI l).toNatClampNeg)), .inl (I 6 0 4 ((nI l).toNatClampNeg)), .inr (.inr (6, 0, 0))], (I, tk_so J 6 0 (tk_u1 (J 6 0) 21 r), R)) _ from ⟨vp_in_nI (by omega) (by omega), vp_in_nI (by omega) (by omega), ?_⟩)
            rw [e4, e5]
            show tkDn tm_151 (76, [some (.inr (.inr (6, 0, 0))), some (.inl k), some (.inl (nI l)), some (.inl (sgn S l)), some (.inl 0), some (.inl 0)], [.inl 0, .inl (nI (se S l)), .inl (nI (sf S l)), .inr (.inr (6, 0, 0))], (I, tk_so J 6 0 (tk_u1 (J 6 0) 21 r), R)) _
            refine dn_if rfl rfl rfl (fun (cd : ((0 : Int32) = 0 : Prop)) => ?_) (fun (cd : (¬ (0 : Int32) = 0 : Prop)) => ?_)
            · show tkDn tm_151 (94, [some (.inr (.inr (6, 0, 0))), some (.inl k), some (.inl (nI l)), some (.inl (sgn S l)), some (.inl 0), some (.inl 0)], [.inl (nI (se S l)), .inl (nI (sf S l)), .inr (.inr (6, 0, 0))], (I, tk_so J 6 0 (tk_u1 (J 6 0) 21 r), R)) _
              refine dn_run 5 (show (vp_in (nI l) 60) ∧ tkDn tm_151 (101, [some (.inr (.inr (6, 0, 0))), some (.inl k), some (.inl (nI l)), some (.inl (sgn S l)), some (.inl 0), some (.inl 0)], [.inr (.inl (((I 6 0 7 ((nI l).toNatClampNeg)) : Int32).toInt64)), .inl (nI (se S l)), .inl (nI (sf S l)), .inr (.inr (6, 0, 0))], (I, tk_so J 6 0 (tk_u1 (J 6 0) 21 r), R)) _ from ⟨vp_in_nI (by omega) (by omega), ?_⟩)
              rw [e7]
              show tkDn tm_151 (101, [some (.inr (.inr (6, 0, 0))), some (.inl k), some (.inl (nI l)), some (.inl (sgn S l)), some (.inl 0), some (.inl 0)], [.inr (.inl ((shi S l).toInt64)), .inl (nI (se S l)), .inl (nI (sf S l)), .inr (.inr (6, 0, 0))], (I, tk_so J 6 0 (tk_u1 (J 6 0) 21 r), R)) _
              refine dn_call rfl rfl rfl rfl rfl (sm_step (by omega) (by omega) ?_)
              rw [tk_so_so, tk_so_same, tk_u1_u1, tk_u1_same, ← hA]
              show tkDn tm_151 (104, [some (.inr (.inr (6, 0, 0))), some (.inl k), some (.inl (nI l)), some (.inl (sgn S l)), some (.inl 0), some (.inl 0)], [], (I, tk_so J 6 0 (tk_u1 (J 6 0) 21 (low1 r (16 * sf S l + se S l) (mlA S k l).toInt64)), R)) _
              refine dn_run 10 (show (vp_in (nI l) 60) ∧ (vp_in (nI l) 60) ∧ tkDn tm_151 (119, [some (.inr (.inr (6, 0, 0))), some (.inl k), some (.inl (nI l)), some (.inl (sgn S l)), some (.inl 0), some (.inl 0)], [.inl 0, .inl (I 6 0 4 ((nI l).toNatClampNeg)), .inl (I 6 0 5 ((nI l).toNatClampNeg)), .inr (.inr (6, 0, 0))], (I, tk_so J 6 0 (tk_u1 (J 6 0) 21 (low1 r (16 * sf S l + se S l) (mlA S k l).toInt64)), R)) _ from ⟨vp_in_nI (by omega) (by omega), vp_in_nI (by omega) (by omega), ?_⟩)
              rw [e5, e4]
              show tkDn tm_151 (119, [some (.inr (.inr (6, 0, 0))), some (.inl k), some (.inl (nI l)), some (.inl (sgn S l)), some (.inl 0), some (.inl 0)], [.inl 0, .inl (nI (sf S l)), .inl (nI (se S l)), .inr (.inr (6, 0, 0))], (I, tk_so J 6 0 (tk_u1 (J 6 0) 21 (low1 r (16 * sf S l + se S l) (mlA S k l).toInt64)), R)) _
              refine dn_if rfl rfl rfl (fun (cc : ((0 : Int32) = 0 : Prop)) => ?_) (fun (cc : (¬ (0 : Int32) = 0 : Prop)) => ?_)
              · show tkDn tm_151 (133, [some (.inr (.inr (6, 0, 0))), some (.inl k), some (.inl (nI l)), some (.inl (sgn S l)), some (.inl 0), some (.inl 0)], [.inl (nI (sf S l)), .inl (nI (se S l)), .inr (.inr (6, 0, 0))], (I, tk_so J 6 0 (tk_u1 (J 6 0) 21 (low1 r (16 * sf S l + se S l) (mlA S k l).toInt64)), R)) _
                refine dn_run 6 (show (vp_in (nI l) 60) ∧ tkDn tm_151 (141, [some (.inr (.inr (6, 0, 0))), some (.inl k), some (.inl (nI l)), some (.inl (sgn S l)), some (.inl 0), some (.inl 0)], [.inr (.inl (((-(I 6 0 6 ((nI l).toNatClampNeg))) : Int32).toInt64)), .inl (nI (sf S l)), .inl (nI (se S l)), .inr (.inr (6, 0, 0))], (I, tk_so J 6 0 (tk_u1 (J 6 0) 21 (low1 r (16 * sf S l + se S l) (mlA S k l).toInt64)), R)) _ from ⟨vp_in_nI (by omega) (by omega), ?_⟩)
                rw [e6]
                show tkDn tm_151 (141, [some (.inr (.inr (6, 0, 0))), some (.inl k), some (.inl (nI l)), some (.inl (sgn S l)), some (.inl 0), some (.inl 0)], [.inr (.inl ((-slo S l).toInt64)), .inl (nI (sf S l)), .inl (nI (se S l)), .inr (.inr (6, 0, 0))], (I, tk_so J 6 0 (tk_u1 (J 6 0) 21 (low1 r (16 * sf S l + se S l) (mlA S k l).toInt64)), R)) _
                refine dn_call rfl rfl rfl rfl rfl (sm_step (by omega) (by omega) ?_)
                rw [tk_so_so, tk_so_same, tk_u1_u1, tk_u1_same, ← hB]
                show tkDn tm_151 (144, [some (.inr (.inr (6, 0, 0))), some (.inl k), some (.inl (nI l)), some (.inl (sgn S l)), some (.inl 0), some (.inl 0)], [], (I, tk_so J 6 0 (tk_u1 (J 6 0) 21 (low1 (low1 r (16 * sf S l + se S l) (mlA S k l).toInt64) (16 * se S l + sf S l) (mlB S k l).toInt64)), R)) _
                refine dn_run 2 (show tkDn tm_151 (10, [some (.inr (.inr (6, 0, 0))), some (.inl k), some (.inl ((nI l) + 1)), some (.inl (sgn S l)), some (.inl 0), some (.inl 0)], [], (I, tk_so J 6 0 (tk_u1 (J 6 0) 21 (low1 (low1 r (16 * sf S l + se S l) (mlA S k l).toInt64) (16 * se S l + sf S l) (mlB S k l).toInt64)), R)) _ from ?_)
                rw [nI_1]
                exact ih (l + 1) _ _ _ _ (by omega) ((hr.low (by omega) hf he).low (by omega) he hf)
              · exact absurd rfl cc
            · exact absurd rfl cd
          · exact absurd rfl c3
        · show tkDn tm_151 (33, [some (.inr (.inr (6, 0, 0))), some (.inl k), some (.inl (nI l)), some (.inl (sgn S l)), o4, o5], [], (I, tk_so J 6 0 (tk_u1 (J 6 0) 21 r), R)) _
          refine dn_run 4 (show tkDn tm_151 (42, [some (.inr (.inr (6, 0, 0))), some (.inl k), some (.inl (nI l)), some (.inl (sgn S l)), some (.inl 1), o5], [.inl 1], (I, tk_so J 6 0 (tk_u1 (J 6 0) 21 r), R)) _ from ?_)
          refine dn_if rfl rfl rfl (fun (c3 : ((1 : Int32) = 0 : Prop)) => ?_) (fun (c3 : (¬ (1 : Int32) = 0 : Prop)) => ?_)
          · exact absurd c3 (by decide)
          · show tkDn tm_151 (45, [some (.inr (.inr (6, 0, 0))), some (.inl k), some (.inl (nI l)), some (.inl (sgn S l)), some (.inl 1), o5], [], (I, tk_so J 6 0 (tk_u1 (J 6 0) 21 r), R)) _
            refine dn_run 6 (show tkDn tm_151 (51, [some (.inr (.inr (6, 0, 0))), some (.inl k), some (.inl (nI l)), some (.inl (sgn S l)), some (.inl 1), o5], [.inl 1, .inl ((k >>> ((sgn S l) &&& 31)) &&& 1)], (I, tk_so J 6 0 (tk_u1 (J 6 0) 21 r), R)) _ from ?_)
            refine dn_if rfl rfl rfl (fun (c4 : ¬ ((k >>> ((sgn S l) &&& 31)) &&& 1) = 1) => ?_) (fun (c4 : ((k >>> ((sgn S l) &&& 31)) &&& 1) = 1) => ?_)
            · show tkDn tm_151 (58, [some (.inr (.inr (6, 0, 0))), some (.inl k), some (.inl (nI l)), some (.inl (sgn S l)), some (.inl 1), o5], [], (I, tk_so J 6 0 (tk_u1 (J 6 0) 21 r), R)) _
              refine dn_run 2 (show tkDn tm_151 (61, [some (.inr (.inr (6, 0, 0))), some (.inl k), some (.inl (nI l)), some (.inl (sgn S l)), some (.inl 1), some (.inl 0)], [], (I, tk_so J 6 0 (tk_u1 (J 6 0) 21 r), R)) _ from ?_)
              have hA : mlA S k l = slo S l := if_pos ⟨⟨Int32.not_lt.mp c1, Int32.not_lt.mp c2⟩, c4⟩
              have hB : mlB S k l = -slo S l := if_neg (fun q => c4 q.2)
              refine dn_run 10 (show (vp_in (nI l) 60) ∧ (vp_in (nI l) 60) ∧ tkDn tm_151 (76, [some (.inr (.inr (6, 0, 0))), some (.inl k), some (.inl (nI l)), some (.inl (sgn S l)), some (.inl 1), some (.inl 0)], [.inl 1, .inl (I 6 0 5 ((nI l).toNatClampNeg)), .inl (I 6 0 4 ((nI l).toNatClampNeg)), .inr (.inr (6, 0, 0))], (I, tk_so J 6 0 (tk_u1 (J 6 0) 21 r), R)) _ from ⟨vp_in_nI (by omega) (by omega), vp_in_nI (by omega) (by omega), ?_⟩)
              rw [e4, e5]
              show tkDn tm_151 (76, [some (.inr (.inr (6, 0, 0))), some (.inl k), some (.inl (nI l)), some (.inl (sgn S l)), some (.inl 1), some (.inl 0)], [.inl 1, .inl (nI (se S l)), .inl (nI (sf S l)), .inr (.inr (6, 0, 0))], (I, tk_so J 6 0 (tk_u1 (J 6 0) 21 r), R)) _
              refine dn_if rfl rfl rfl (fun (cd : ((1 : Int32) = 0 : Prop)) => ?_) (fun (cd : (¬ (1 : Int32) = 0 : Prop)) => ?_)
              · exact absurd cd (by decide)
              · show tkDn tm_151 (79, [some (.inr (.inr (6, 0, 0))), some (.inl k), some (.inl (nI l)), some (.inl (sgn S l)), some (.inl 1), some (.inl 0)], [.inl (nI (se S l)), .inl (nI (sf S l)), .inr (.inr (6, 0, 0))], (I, tk_so J 6 0 (tk_u1 (J 6 0) 21 r), R)) _
                refine dn_run 1 (show tkDn tm_151 (81, [some (.inr (.inr (6, 0, 0))), some (.inl k), some (.inl (nI l)), some (.inl (sgn S l)), some (.inl 1), some (.inl 0)], [.inl 0, .inl (nI (se S l)), .inl (nI (sf S l)), .inr (.inr (6, 0, 0))], (I, tk_so J 6 0 (tk_u1 (J 6 0) 21 r), R)) _ from ?_)
                refine dn_if rfl rfl rfl (fun (ce : (¬ (0 : Int32) = 0 : Prop)) => ?_) (fun (ce : ((0 : Int32) = 0 : Prop)) => ?_)
                · exact absurd rfl ce
                · show tkDn tm_151 (84, [some (.inr (.inr (6, 0, 0))), some (.inl k), some (.inl (nI l)), some (.inl (sgn S l)), some (.inl 1), some (.inl 0)], [.inl (nI (se S l)), .inl (nI (sf S l)), .inr (.inr (6, 0, 0))], (I, tk_so J 6 0 (tk_u1 (J 6 0) 21 r), R)) _
                  refine dn_run 6 (show (vp_in (nI l) 60) ∧ tkDn tm_151 (101, [some (.inr (.inr (6, 0, 0))), some (.inl k), some (.inl (nI l)), some (.inl (sgn S l)), some (.inl 1), some (.inl 0)], [.inr (.inl (((I 6 0 6 ((nI l).toNatClampNeg)) : Int32).toInt64)), .inl (nI (se S l)), .inl (nI (sf S l)), .inr (.inr (6, 0, 0))], (I, tk_so J 6 0 (tk_u1 (J 6 0) 21 r), R)) _ from ⟨vp_in_nI (by omega) (by omega), ?_⟩)
                  rw [e6]
                  show tkDn tm_151 (101, [some (.inr (.inr (6, 0, 0))), some (.inl k), some (.inl (nI l)), some (.inl (sgn S l)), some (.inl 1), some (.inl 0)], [.inr (.inl ((slo S l).toInt64)), .inl (nI (se S l)), .inl (nI (sf S l)), .inr (.inr (6, 0, 0))], (I, tk_so J 6 0 (tk_u1 (J 6 0) 21 r), R)) _
                  refine dn_call rfl rfl rfl rfl rfl (sm_step (by omega) (by omega) ?_)
                  rw [tk_so_so, tk_so_same, tk_u1_u1, tk_u1_same, ← hA]
                  show tkDn tm_151 (104, [some (.inr (.inr (6, 0, 0))), some (.inl k), some (.inl (nI l)), some (.inl (sgn S l)), some (.inl 1), some (.inl 0)], [], (I, tk_so J 6 0 (tk_u1 (J 6 0) 21 (low1 r (16 * sf S l + se S l) (mlA S k l).toInt64)), R)) _
                  refine dn_run 10 (show (vp_in (nI l) 60) ∧ (vp_in (nI l) 60) ∧ tkDn tm_151 (119, [some (.inr (.inr (6, 0, 0))), some (.inl k), some (.inl (nI l)), some (.inl (sgn S l)), some (.inl 1), some (.inl 0)], [.inl 0, .inl (I 6 0 4 ((nI l).toNatClampNeg)), .inl (I 6 0 5 ((nI l).toNatClampNeg)), .inr (.inr (6, 0, 0))], (I, tk_so J 6 0 (tk_u1 (J 6 0) 21 (low1 r (16 * sf S l + se S l) (mlA S k l).toInt64)), R)) _ from ⟨vp_in_nI (by omega) (by omega), vp_in_nI (by omega) (by omega), ?_⟩)
                  rw [e5, e4]
                  show tkDn tm_151 (119, [some (.inr (.inr (6, 0, 0))), some (.inl k), some (.inl (nI l)), some (.inl (sgn S l)), some (.inl 1), some (.inl 0)], [.inl 0, .inl (nI (sf S l)), .inl (nI (se S l)), .inr (.inr (6, 0, 0))], (I, tk_so J 6 0 (tk_u1 (J 6 0) 21 (low1 r (16 * sf S l + se S l) (mlA S k l).toInt64)), R)) _
                  refine dn_if rfl rfl rfl (fun (cc : ((0 : Int32) = 0 : Prop)) => ?_) (fun (cc : (¬ (0 : Int32) = 0 : Prop)) => ?_)
                  · show tkDn tm_151 (133, [some (.inr (.inr (6, 0, 0))), some (.inl k), some (.inl (nI l)), some (.inl (sgn S l)), some (.inl 1), some (.inl 0)], [.inl (nI (sf S l)), .inl (nI (se S l)), .inr (.inr (6, 0, 0))], (I, tk_so J 6 0 (tk_u1 (J 6 0) 21 (low1 r (16 * sf S l + se S l) (mlA S k l).toInt64)), R)) _
                    refine dn_run 6 (show (vp_in (nI l) 60) ∧ tkDn tm_151 (141, [some (.inr (.inr (6, 0, 0))), some (.inl k), some (.inl (nI l)), some (.inl (sgn S l)), some (.inl 1), some (.inl 0)], [.inr (.inl (((-(I 6 0 6 ((nI l).toNatClampNeg))) : Int32).toInt64)), .inl (nI (sf S l)), .inl (nI (se S l)), .inr (.inr (6, 0, 0))], (I, tk_so J 6 0 (tk_u1 (J 6 0) 21 (low1 r (16 * sf S l + se S l) (mlA S k l).toInt64)), R)) _ from ⟨vp_in_nI (by omega) (by omega), ?_⟩)
                    rw [e6]
                    show tkDn tm_151 (141, [some (.inr (.inr (6, 0, 0))), some (.inl k), some (.inl (nI l)), some (.inl (sgn S l)), some (.inl 1), some (.inl 0)], [.inr (.inl ((-slo S l).toInt64)), .inl (nI (sf S l)), .inl (nI (se S l)), .inr (.inr (6, 0, 0))], (I, tk_so J 6 0 (tk_u1 (J 6 0) 21 (low1 r (16 * sf S l + se S l) (mlA S k l).toInt64)), R)) _
                    refine dn_call rfl rfl rfl rfl rfl (sm_step (by omega) (by omega) ?_)
                    rw [tk_so_so, tk_so_same, tk_u1_u1, tk_u1_same, ← hB]
                    show tkDn tm_151 (144, [some (.inr (.inr (6, 0, 0))), some (.inl k), some (.inl (nI l)), some (.inl (sgn S l)), some (.inl 1), some (.inl 0)], [], (I, tk_so J 6 0 (tk_u1 (J 6 0) 21 (low1 (low1 r (16 * sf S l + se S l) (mlA S k l).toInt64) (16 * se S l + sf S l) (mlB S k l).toInt64)), R)) _
                    refine dn_run 2 (show tkDn tm_151 (10, [some (.inr (.inr (6, 0, 0))), some (.inl k), some (.inl ((nI l) + 1)), some (.inl (sgn S l)), some (.inl 1), some (.inl 0)], [], (I, tk_so J 6 0 (tk_u1 (J 6 0) 21 (low1 (low1 r (16 * sf S l + se S l) (mlA S k l).toInt64) (16 * se S l + sf S l) (mlB S k l).toInt64)), R)) _ from ?_)
                    rw [nI_1]
                    exact ih (l + 1) _ _ _ _ (by omega) ((hr.low (by omega) hf he).low (by omega) he hf)
                  · exact absurd rfl cc
            · show tkDn tm_151 (54, [some (.inr (.inr (6, 0, 0))), some (.inl k), some (.inl (nI l)), some (.inl (sgn S l)), some (.inl 1), o5], [], (I, tk_so J 6 0 (tk_u1 (J 6 0) 21 r), R)) _
              refine dn_run 3 (show tkDn tm_151 (61, [some (.inr (.inr (6, 0, 0))), some (.inl k), some (.inl (nI l)), some (.inl (sgn S l)), some (.inl 1), some (.inl 1)], [], (I, tk_so J 6 0 (tk_u1 (J 6 0) 21 r), R)) _ from ?_)
              have hA : mlA S k l = shi S l := if_neg (fun q => q.2 c4)
              have hB : mlB S k l = -shi S l := if_pos ⟨⟨Int32.not_lt.mp c1, Int32.not_lt.mp c2⟩, c4⟩
              refine dn_run 10 (show (vp_in (nI l) 60) ∧ (vp_in (nI l) 60) ∧ tkDn tm_151 (76, [some (.inr (.inr (6, 0, 0))), some (.inl k), some (.inl (nI l)), some (.inl (sgn S l)), some (.inl 1), some (.inl 1)], [.inl 1, .inl (I 6 0 5 ((nI l).toNatClampNeg)), .inl (I 6 0 4 ((nI l).toNatClampNeg)), .inr (.inr (6, 0, 0))], (I, tk_so J 6 0 (tk_u1 (J 6 0) 21 r), R)) _ from ⟨vp_in_nI (by omega) (by omega), vp_in_nI (by omega) (by omega), ?_⟩)
              rw [e4, e5]
              show tkDn tm_151 (76, [some (.inr (.inr (6, 0, 0))), some (.inl k), some (.inl (nI l)), some (.inl (sgn S l)), some (.inl 1), some (.inl 1)], [.inl 1, .inl (nI (se S l)), .inl (nI (sf S l)), .inr (.inr (6, 0, 0))], (I, tk_so J 6 0 (tk_u1 (J 6 0) 21 r), R)) _
              refine dn_if rfl rfl rfl (fun (cd : ((1 : Int32) = 0 : Prop)) => ?_) (fun (cd : (¬ (1 : Int32) = 0 : Prop)) => ?_)
              · exact absurd cd (by decide)
              · show tkDn tm_151 (79, [some (.inr (.inr (6, 0, 0))), some (.inl k), some (.inl (nI l)), some (.inl (sgn S l)), some (.inl 1), some (.inl 1)], [.inl (nI (se S l)), .inl (nI (sf S l)), .inr (.inr (6, 0, 0))], (I, tk_so J 6 0 (tk_u1 (J 6 0) 21 r), R)) _
                refine dn_run 1 (show tkDn tm_151 (81, [some (.inr (.inr (6, 0, 0))), some (.inl k), some (.inl (nI l)), some (.inl (sgn S l)), some (.inl 1), some (.inl 1)], [.inl 1, .inl (nI (se S l)), .inl (nI (sf S l)), .inr (.inr (6, 0, 0))], (I, tk_so J 6 0 (tk_u1 (J 6 0) 21 r), R)) _ from ?_)
                refine dn_if rfl rfl rfl (fun (ce : (¬ (1 : Int32) = 0 : Prop)) => ?_) (fun (ce : ((1 : Int32) = 0 : Prop)) => ?_)
                · show tkDn tm_151 (94, [some (.inr (.inr (6, 0, 0))), some (.inl k), some (.inl (nI l)), some (.inl (sgn S l)), some (.inl 1), some (.inl 1)], [.inl (nI (se S l)), .inl (nI (sf S l)), .inr (.inr (6, 0, 0))], (I, tk_so J 6 0 (tk_u1 (J 6 0) 21 r), R)) _
                  refine dn_run 5 (show (vp_in (nI l) 60) ∧ tkDn tm_151 (101, [some (.inr (.inr (6, 0, 0))), some (.inl k), some (.inl (nI l)), some (.inl (sgn S l)), some (.inl 1), some (.inl 1)], [.inr (.inl (((I 6 0 7 ((nI l).toNatClampNeg)) : Int32).toInt64)), .inl (nI (se S l)), .inl (nI (sf S l)), .inr (.inr (6, 0, 0))], (I, tk_so J 6 0 (tk_u1 (J 6 0) 21 r), R)) _ from ⟨vp_in_nI (by omega) (by omega), ?_⟩)
                  rw [e7]
                  show tkDn tm_151 (101, [some (.inr (.inr (6, 0, 0))), some (.inl k), some (.inl (nI l)), some (.inl (sgn S l)), some (.inl 1), some (.inl 1)], [.inr (.inl ((shi S l).toInt64)), .inl (nI (se S l)), .inl (nI (sf S l)), .inr (.inr (6, 0, 0))], (I, tk_so J 6 0 (tk_u1 (J 6 0) 21 r), R)) _
                  refine dn_call rfl rfl rfl rfl rfl (sm_step (by omega) (by omega) ?_)
                  rw [tk_so_so, tk_so_same, tk_u1_u1, tk_u1_same, ← hA]
                  show tkDn tm_151 (104, [some (.inr (.inr (6, 0, 0))), some (.inl k), some (.inl (nI l)), some (.inl (sgn S l)), some (.inl 1), some (.inl 1)], [], (I, tk_so J 6 0 (tk_u1 (J 6 0) 21 (low1 r (16 * sf S l + se S l) (mlA S k l).toInt64)), R)) _
                  refine dn_run 10 (show (vp_in (nI l) 60) ∧ (vp_in (nI l) 60) ∧ tkDn tm_151 (119, [some (.inr (.inr (6, 0, 0))), some (.inl k), some (.inl (nI l)), some (.inl (sgn S l)), some (.inl 1), some (.inl 1)], [.inl 1, .inl (I 6 0 4 ((nI l).toNatClampNeg)), .inl (I 6 0 5 ((nI l).toNatClampNeg)), .inr (.inr (6, 0, 0))], (I, tk_so J 6 0 (tk_u1 (J 6 0) 21 (low1 r (16 * sf S l + se S l) (mlA S k l).toInt64)), R)) _ from ⟨vp_in_nI (by omega) (by omega), vp_in_nI (by omega) (by omega), ?_⟩)
                  rw [e5, e4]
                  show tkDn tm_151 (119, [some (.inr (.inr (6, 0, 0))), some (.inl k), some (.inl (nI l)), some (.inl (sgn S l)), some (.inl 1), some (.inl 1)], [.inl 1, .inl (nI (sf S l)), .inl (nI (se S l)), .inr (.inr (6, 0, 0))], (I, tk_so J 6 0 (tk_u1 (J 6 0) 21 (low1 r (16 * sf S l + se S l) (mlA S k l).toInt64)), R)) _
                  refine dn_if rfl rfl rfl (fun (cc : ((1 : Int32) = 0 : Prop)) => ?_) (fun (cc : (¬ (1 : Int32) = 0 : Prop)) => ?_)
                  · exact absurd cc (by decide)
                  · show tkDn tm_151 (122, [some (.inr (.inr (6, 0, 0))), some (.inl k), some (.inl (nI l)), some (.inl (sgn S l)), some (.inl 1), some (.inl 1)], [.inl (nI (sf S l)), .inl (nI (se S l)), .inr (.inr (6, 0, 0))], (I, tk_so J 6 0 (tk_u1 (J 6 0) 21 (low1 r (16 * sf S l + se S l) (mlA S k l).toInt64)), R)) _
                    refine dn_run 7 (show (vp_in (nI l) 60) ∧ tkDn tm_151 (141, [some (.inr (.inr (6, 0, 0))), some (.inl k), some (.inl (nI l)), some (.inl (sgn S l)), some (.inl 1), some (.inl 1)], [.inr (.inl (((-(I 6 0 7 ((nI l).toNatClampNeg))) : Int32).toInt64)), .inl (nI (sf S l)), .inl (nI (se S l)), .inr (.inr (6, 0, 0))], (I, tk_so J 6 0 (tk_u1 (J 6 0) 21 (low1 r (16 * sf S l + se S l) (mlA S k l).toInt64)), R)) _ from ⟨vp_in_nI (by omega) (by omega), ?_⟩)
                    rw [e7]
                    show tkDn tm_151 (141, [some (.inr (.inr (6, 0, 0))), some (.inl k), some (.inl (nI l)), some (.inl (sgn S l)), some (.inl 1), some (.inl 1)], [.inr (.inl ((-shi S l).toInt64)), .inl (nI (sf S l)), .inl (nI (se S l)), .inr (.inr (6, 0, 0))], (I, tk_so J 6 0 (tk_u1 (J 6 0) 21 (low1 r (16 * sf S l + se S l) (mlA S k l).toInt64)), R)) _
                    refine dn_call rfl rfl rfl rfl rfl (sm_step (by omega) (by omega) ?_)
                    rw [tk_so_so, tk_so_same, tk_u1_u1, tk_u1_same, ← hB]
                    show tkDn tm_151 (144, [some (.inr (.inr (6, 0, 0))), some (.inl k), some (.inl (nI l)), some (.inl (sgn S l)), some (.inl 1), some (.inl 1)], [], (I, tk_so J 6 0 (tk_u1 (J 6 0) 21 (low1 (low1 r (16 * sf S l + se S l) (mlA S k l).toInt64) (16 * se S l + sf S l) (mlB S k l).toInt64)), R)) _
                    refine dn_run 2 (show tkDn tm_151 (10, [some (.inr (.inr (6, 0, 0))), some (.inl k), some (.inl ((nI l) + 1)), some (.inl (sgn S l)), some (.inl 1), some (.inl 1)], [], (I, tk_so J 6 0 (tk_u1 (J 6 0) 21 (low1 (low1 r (16 * sf S l + se S l) (mlA S k l).toInt64) (16 * se S l + sf S l) (mlB S k l).toInt64)), R)) _ from ?_)
                    rw [nI_1]
                    exact ih (l + 1) _ _ _ _ (by omega) ((hr.low (by omega) hf he).low (by omega) he hf)
                · exact absurd ce (by decide)
set_option maxRecDepth 8000 in
theorem sm_layLinks {I : tkI} {J : tkJ} {R : Nat → Nat} {Q : tkQ} {S : tkS} (hP : NetP (I 6 0) S) (w : WF S) {k : Int32} (hQ : ∀ r, RowP (sM S) r (mlM S k (sL S)) → Q none (I, tk_so J 6 0 (tk_u1 (J 6 0) 21 r), R)) : tkDn tm_151 (0, [some (.inr (.inr (6, 0, 0))), some (.inl k), none, none, none, none], [], (I, J, R)) Q := by
  have hM16 := w.1
  have hL60 := w.2.1
  have hG6 := w.2.2.1
  have hM := hP.m
  have hL := hP.l
  have hG := hP.g
  refine dn_run 3 (show tkDn tm_151 (5, [some (.inr (.inr (6, 0, 0))), some (.inl k), none, none, none, none], [.inl (I 6 0 0 0), .inr (.inr (6, 0, 0))], (I, J, R)) _ from ?_)
  rw [hM]
  show tkDn tm_151 (5, [some (.inr (.inr (6, 0, 0))), some (.inl k), none, none, none, none], [.inl (nI (sM S)), .inr (.inr (6, 0, 0))], (I, J, R)) _
  refine dn_call rfl rfl rfl rfl rfl (sm_clearWays hM16 (fun r hr => ?_))
  show tkDn tm_151 (8, [some (.inr (.inr (6, 0, 0))), some (.inl k), none, none, none, none], [], (I, tk_so J 6 0 (tk_u1 (J 6 0) 21 r), R)) _
  refine dn_run 2 (show tkDn tm_151 (10, [some (.inr (.inr (6, 0, 0))), some (.inl k), some (.inl 0), none, none, none], [], (I, tk_so J 6 0 (tk_u1 (J 6 0) 21 r), R)) _ from ?_)
  exact sm_layLinks_loop hP w hQ (sL S) 0 r none none none (Nat.zero_add _) hr
set_option maxRecDepth 8000 in
theorem sm_together {I : tkI} {J : tkJ} {R : Nat → Nat} {Q : tkQ} {S : tkS} (hP : NetP (I 6 0) S) (w : WF S) (hQ : ∀ r, RowP (sM S) r (mtog S (-1)).2 → Q (some (.inl (if (mtog S (-1)).1 = true then 1 else 0))) (I, tk_so J 6 0 (tk_u1 (J 6 0) 21 r), R)) : tkDn tm_152 (0, [some (.inr (.inr (6, 0, 0)))], [], (I, J, R)) Q := by
  have hM16 := w.1
  have hL60 := w.2.1
  have hG6 := w.2.2.1
  have hM := hP.m
  have hL := hP.l
  have hG := hP.g
  refine dn_run 2 (show tkDn tm_152 (2, [some (.inr (.inr (6, 0, 0)))], [.inl (-1), .inr (.inr (6, 0, 0))], (I, J, R)) _ from ?_)
  refine dn_call rfl rfl rfl rfl rfl (sm_layLinks hP w (fun r hr => ?_))
  show tkDn tm_152 (5, [some (.inr (.inr (6, 0, 0)))], [], (I, tk_so J 6 0 (tk_u1 (J 6 0) 21 r), R)) _
  refine dn_run 3 (show tkDn tm_152 (10, [some (.inr (.inr (6, 0, 0)))], [.inl (I 6 0 0 0), .inr (.inr (6, 0, 0))], (I, tk_so J 6 0 (tk_u1 (J 6 0) 21 r), R)) _ from ?_)
  rw [hM]
  show tkDn tm_152 (10, [some (.inr (.inr (6, 0, 0)))], [.inl (nI (sM S)), .inr (.inr (6, 0, 0))], (I, tk_so J 6 0 (tk_u1 (J 6 0) 21 r), R)) _
  refine dn_call rfl rfl rfl rfl rfl (sm_closes (d := mlM S (-1) (sL S)) hM16 hr (fun r3 hr3 => ?_))
  rw [tk_so_so, tk_so_same, tk_u1_u1]
  show tkDn tm_152 (13, [some (.inr (.inr (6, 0, 0)))], [.inl (if (mcF (mlM S (-1) (sL S)) (sM S)).1 = true then 1 else 0)], (I, tk_so J 6 0 (tk_u1 (J 6 0) 21 r3), R)) _
  refine dn_if rfl rfl rfl (fun (c : (if (mcF (mlM S (-1) (sL S)) (sM S)).1 = true then 1 else 0) = 0) => ?_) (fun (c : ¬ (if (mcF (mlM S (-1) (sL S)) (sM S)).1 = true then 1 else 0) = 0) => ?_)
  · show tkDn tm_152 (20, [some (.inr (.inr (6, 0, 0)))], [], (I, tk_so J 6 0 (tk_u1 (J 6 0) 21 r3), R)) _
    refine dn_run 1 (show tkDn tm_152 (21, [some (.inr (.inr (6, 0, 0)))], [.inl 0], (I, tk_so J 6 0 (tk_u1 (J 6 0) 21 r3), R)) _ from ?_)
    refine dn_ret0 rfl rfl rfl rfl ?_
    have e : ¬ (mtog S (-1)).1 = true := fun q => by rw [show (mcF (mlM S (-1) (sL S)) (sM S)).1 = true from q] at c; exact absurd c (by decide)
    have := hQ r3 hr3
    rw [if_neg e] at this
    exact this
  · show tkDn tm_152 (16, [some (.inr (.inr (6, 0, 0)))], [], (I, tk_so J 6 0 (tk_u1 (J 6 0) 21 r3), R)) _
    refine dn_run 2 (show tkDn tm_152 (21, [some (.inr (.inr (6, 0, 0)))], [.inl 1], (I, tk_so J 6 0 (tk_u1 (J 6 0) 21 r3), R)) _ from ?_)
    refine dn_ret0 rfl rfl rfl rfl ?_
    have e : (mtog S (-1)).1 = true := by by_cases q : (mtog S (-1)).1 = true; exact q; exact absurd (if_neg q) c
    have := hQ r3 hr3
    rw [if_pos e] at this
    exact this
def mdis (S : tkS) (u v : Int32) : Int64 := if hasM S u ∧ hasM S v then (if (mtog S (-1)).1 = true then (mtog S (-1)).2 u.toNatClampNeg v.toNatClampNeg else 0) else 0
set_option maxRecDepth 8000 in
theorem sm_distance {I : tkI} {J : tkJ} {R : Nat → Nat} {Q : tkQ} {S : tkS} (hP : NetP (I 6 0) S) (w : WF S) {u v : Int32} (hQ : ∀ r, Q (some (.inr (.inl (mdis S u v)))) (I, tk_so J 6 0 (tk_u1 (J 6 0) 21 r), R)) : tkDn tm_153 (0, [some (.inr (.inr (6, 0, 0))), some (.inl u), some (.inl v)], [], (I, J, R)) Q := by
  have hM16 := w.1
  have hL60 := w.2.1
  have hG6 := w.2.2.1
  have hM := hP.m
  have hL := hP.l
  have hG := hP.g
  refine dn_run 2 (show tkDn tm_153 (2, [some (.inr (.inr (6, 0, 0))), some (.inl u), some (.inl v)], [.inl u, .inr (.inr (6, 0, 0))], (I, J, R)) _ from ?_)
  refine dn_call rfl rfl rfl rfl rfl (sm_noMoment hP w ?_)
  show tkDn tm_153 (5, [some (.inr (.inr (6, 0, 0))), some (.inl u), some (.inl v)], [.inl (if hasM S u then 0 else 1)], (I, J, R)) _
  refine dn_if rfl rfl rfl (fun (c1 : ¬ (if hasM S u then 0 else 1) = 0) => ?_) (fun (c1 : (if hasM S u then 0 else 1) = 0) => ?_)
  · show tkDn tm_153 (16, [some (.inr (.inr (6, 0, 0))), some (.inl u), some (.inl v)], [], (I, J, R)) _
    refine dn_run 1 (show tkDn tm_153 (17, [some (.inr (.inr (6, 0, 0))), some (.inl u), some (.inl v)], [.inr (.inl 0)], (I, J, R)) _ from ?_)
    refine dn_ret0 rfl rfl rfl rfl ?_
    have := hQ (J 6 0 21)
    rw [jr_id] at this
    rw [show mdis S u v = 0 from if_neg (fun q => by rw [if_pos q.1] at c1; exact absurd rfl c1)] at this
    exact this
  · show tkDn tm_153 (8, [some (.inr (.inr (6, 0, 0))), some (.inl u), some (.inl v)], [], (I, J, R)) _
    have k1 : hasM S u := by by_cases q : hasM S u; exact q; rw [if_neg q] at c1; exact absurd c1 (by decide)
    refine dn_run 2 (show tkDn tm_153 (10, [some (.inr (.inr (6, 0, 0))), some (.inl u), some (.inl v)], [.inl v, .inr (.inr (6, 0, 0))], (I, J, R)) _ from ?_)
    refine dn_call rfl rfl rfl rfl rfl (sm_noMoment hP w ?_)
    show tkDn tm_153 (13, [some (.inr (.inr (6, 0, 0))), some (.inl u), some (.inl v)], [.inl (if hasM S v then 0 else 1)], (I, J, R)) _
    refine dn_if rfl rfl rfl (fun (c2 : (if hasM S v then 0 else 1) = 0) => ?_) (fun (c2 : ¬ (if hasM S v then 0 else 1) = 0) => ?_)
    · show tkDn tm_153 (18, [some (.inr (.inr (6, 0, 0))), some (.inl u), some (.inl v)], [], (I, J, R)) _
      have k2 : hasM S v := by by_cases q : hasM S v; exact q; rw [if_neg q] at c2; exact absurd c2 (by decide)
      refine dn_run 1 (show tkDn tm_153 (19, [some (.inr (.inr (6, 0, 0))), some (.inl u), some (.inl v)], [.inr (.inr (6, 0, 0))], (I, J, R)) _ from ?_)
      refine dn_call rfl rfl rfl rfl rfl (sm_together hP w (fun r hr => ?_))
      show tkDn tm_153 (22, [some (.inr (.inr (6, 0, 0))), some (.inl u), some (.inl v)], [.inl (if (mtog S (-1)).1 = true then 1 else 0)], (I, tk_so J 6 0 (tk_u1 (J 6 0) 21 r), R)) _
      refine dn_run 1 (show tkDn tm_153 (23, [some (.inr (.inr (6, 0, 0))), some (.inl u), some (.inl v)], [.inl 1, .inl (if (mtog S (-1)).1 = true then 1 else 0)], (I, tk_so J 6 0 (tk_u1 (J 6 0) 21 r), R)) _ from ?_)
      refine dn_if rfl rfl rfl (fun (c3 : ¬ (if (mtog S (-1)).1 = true then 1 else 0) = 1) => ?_) (fun (c3 : (if (mtog S (-1)).1 = true then 1 else 0) = 1) => ?_)
      · show tkDn tm_153 (40, [some (.inr (.inr (6, 0, 0))), some (.inl u), some (.inl v)], [], (I, tk_so J 6 0 (tk_u1 (J 6 0) 21 r), R)) _
        refine dn_run 1 (show tkDn tm_153 (41, [some (.inr (.inr (6, 0, 0))), some (.inl u), some (.inl v)], [.inr (.inl 0)], (I, tk_so J 6 0 (tk_u1 (J 6 0) 21 r), R)) _ from ?_)
        refine dn_ret0 rfl rfl rfl rfl ?_
        have e : ¬ (mtog S (-1)).1 = true := fun q => c3 (if_pos q)
        rw [show mdis S u v = 0 by unfold mdis; rw [if_pos ⟨k1, k2⟩, if_neg e]] at hQ
        exact hQ r
      · show tkDn tm_153 (26, [some (.inr (.inr (6, 0, 0))), some (.inl u), some (.inl v)], [], (I, tk_so J 6 0 (tk_u1 (J 6 0) 21 r), R)) _
        have e : (mtog S (-1)).1 = true := by by_cases q : (mtog S (-1)).1 = true; exact q; rw [if_neg q] at c3; exact absurd c3 (by decide)
        rw [show mdis S u v = (mtog S (-1)).2 u.toNatClampNeg v.toNatClampNeg by unfold mdis; rw [if_pos ⟨k1, k2⟩, if_pos e]] at hQ
        obtain ⟨u, hu, rfl, hu2⟩ := hasM_nat hM16 k1
        obtain ⟨v, hv, rfl, hv2⟩ := hasM_nat hM16 k2
        rw [hu2, hv2] at hQ
        show tkDn tm_153 (26, [some (.inr (.inr (6, 0, 0))), some (.inl (nI u)), some (.inl (nI v))], [], (I, tk_so J 6 0 (tk_u1 (J 6 0) 21 r), R)) _
        refine dn_run 9 (show (vp_in ((16 * (nI u)) + (nI v)) 256) ∧ tkDn tm_153 (41, [some (.inr (.inr (6, 0, 0))), some (.inl (nI u)), some (.inl (nI v))], [.inr (.inl (r (((16 * (nI u)) + (nI v)).toNatClampNeg)))], (I, tk_so J 6 0 (tk_u1 (J 6 0) 21 r), R)) _ from ⟨by rw [ix16']; exact vp_in_nI (by omega) (by omega), ?_⟩)
        rw [ix16', hr.at hM16 hu hv]
        refine dn_ret0 rfl rfl rfl rfl ?_
        exact hQ r
    · show tkDn tm_153 (16, [some (.inr (.inr (6, 0, 0))), some (.inl u), some (.inl v)], [], (I, J, R)) _
      refine dn_run 1 (show tkDn tm_153 (17, [some (.inr (.inr (6, 0, 0))), some (.inl u), some (.inl v)], [.inr (.inl 0)], (I, J, R)) _ from ?_)
      refine dn_ret0 rfl rfl rfl rfl ?_
      have := hQ (J 6 0 21)
      rw [jr_id] at this
      rw [show mdis S u v = 0 from if_neg (fun q => by rw [if_pos q.2] at c2; exact absurd rfl c2)] at this
      exact this
set_option maxRecDepth 8000 in
theorem sm_findRoot_loop {I : tkI} {J : tkJ} {R : Nat → Nat} {Q : tkQ} {S : tkS} (hP : NetP (I 6 0) S) (w : WF S) {m : Nat} : ∀ n t acc X o, up S n t = none → t < sM S → X 0 21 = nI t → X 0 22 = acc → mRoot (I 6 0) X → (∀ Y, Y 0 21 = nI (rtF S n t) → Y 0 22 = gbF S n t acc → mRoot (I 6 0) Y → Q none (tk_so I 6 0 Y, J, R)) → tkDn tm_154 (10, [some (.inr (.inr (6, 0, 0))), some (.inl (nI m)), o], [], (tk_so I 6 0 X, J, R)) Q := by
  have hM16 := w.1
  have hG6 := w.2.2.1
  have hL60 := w.2.1
  intro n
  induction n with
  | zero =>
    intro t acc X o h
    cases h
  | succ n ih =>
    intro t acc X o hu ht h21 h22 hX hQ
    have hPX : NetP (tk_so I 6 0 X 6 0) S := by rw [tk_so_same]; exact hX.net hP
    show tkDn tm_154 (10, [some (.inr (.inr (6, 0, 0))), some (.inl (nI m)), o], [], (tk_so I 6 0 X, J, R)) _
    refine dn_run 3 (show tkDn tm_154 (15, [some (.inr (.inr (6, 0, 0))), some (.inl (nI m)), o], [.inl (X 0 21), .inr (.inr (6, 0, 0))], (tk_so I 6 0 X, J, R)) _ from ?_)
    rw [h21]
    show tkDn tm_154 (15, [some (.inr (.inr (6, 0, 0))), some (.inl (nI m)), o], [.inl (nI t), .inr (.inr (6, 0, 0))], (tk_so I 6 0 X, J, R)) _
    refine dn_call rfl rfl rfl rfl rfl (sm_giftTo hPX w (by omega) ?_)
    show tkDn tm_154 (18, [some (.inr (.inr (6, 0, 0))), some (.inl (nI m)), o], [.inl (if gt S t < sG S then nI (gt S t) else -1)], (tk_so I 6 0 X, J, R)) _
    refine dn_if rfl rfl rfl (fun (c2 : (if gt S t < sG S then nI (gt S t) else -1) < 0) => ?_) (fun (c2 : ¬ (if gt S t < sG S then nI (gt S t) else -1) < 0) => ?_)
    · show tkDn tm_154 (60, [some (.inr (.inr (6, 0, 0))), some (.inl (nI m)), o], [], (tk_so I 6 0 X, J, R)) _
      have hg : ¬ gt S t < sG S := fun q => by rw [if_pos q] at c2; exact nI_pos (by omega) c2
      refine dn_ret0 rfl rfl rfl rfl ?_
      exact hQ X (by rw [show rtF S (n + 1) t = t from if_neg hg]; exact h21) (by rw [show gbF S (n + 1) t acc = acc from if_neg hg]; exact h22) hX
    · show tkDn tm_154 (21, [some (.inr (.inr (6, 0, 0))), some (.inl (nI m)), o], [], (tk_so I 6 0 X, J, R)) _
      have hg : gt S t < sG S := by by_cases q : gt S t < sG S; exact q; rw [if_neg q] at c2; exact absurd (by decide) c2
      have hl := w.gl hg
      have h1 : X 9 (nI (gt S t)).toNatClampNeg = nI (sgl S (gt S t)) := (hX.net hP).gl w hg
      have h2 : X 4 (nI (sgl S (gt S t))).toNatClampNeg = nI (sf S (sgl S (gt S t))) := (hX.net hP).fr w hl
      refine dn_run 3 (show tkDn tm_154 (26, [some (.inr (.inr (6, 0, 0))), some (.inl (nI m)), o], [.inl (X 0 21), .inr (.inr (6, 0, 0))], (tk_so I 6 0 X, J, R)) _ from ?_)
      rw [h21]
      show tkDn tm_154 (26, [some (.inr (.inr (6, 0, 0))), some (.inl (nI m)), o], [.inl (nI t), .inr (.inr (6, 0, 0))], (tk_so I 6 0 X, J, R)) _
      refine dn_call rfl rfl rfl rfl rfl (sm_giftTo hPX w (by omega) ?_)
      show tkDn tm_154 (29, [some (.inr (.inr (6, 0, 0))), some (.inl (nI m)), o], [.inl (if gt S t < sG S then nI (gt S t) else -1)], (tk_so I 6 0 X, J, R)) _
      rw [if_pos hg]
      show tkDn tm_154 (29, [some (.inr (.inr (6, 0, 0))), some (.inl (nI m)), o], [.inl (nI (gt S t))], (tk_so I 6 0 X, J, R)) _
      refine dn_run 19 (show (vp_in (nI (gt S t)) 6) ∧ (vp_in (X 9 ((nI (gt S t)).toNatClampNeg)) 60) ∧ tkDn tm_154 (10, [some (.inr (.inr (6, 0, 0))), some (.inl (nI m)), some (.inl (nI (gt S t)))], [], (tk_so (tk_so (tk_so I 6 0 X) 6 0 (tk_u2 X 0 22 ((X 0 22) ||| (1 <<< ((nI (gt S t)) &&& 31))))) 6 0 (tk_u2 (tk_u2 X 0 22 ((X 0 22) ||| (1 <<< ((nI (gt S t)) &&& 31)))) 0 21 (X 4 ((X 9 ((nI (gt S t)).toNatClampNeg)).toNatClampNeg))), J, R)) _ from ⟨vp_in_nI (by omega) (by omega), by show vp_in (X 9 _) 60; rw [h1]; exact vp_in_nI (by omega) (by omega), ?_⟩)
      rw [tk_so_so, tk_so_so]
      rw [h1, h2]
      refine ih (sf S (sgl S (gt S t))) (acc ||| (1 <<< (nI (gt S t) &&& 31))) _ _ (by rw [show up S (n + 1) t = up S n (sf S (sgl S (gt S t))) from if_pos hg] at hu; exact hu) (w.fM hl) (by rw [tk_u2_1]) (by rw [tk_u2_0 (by decide), tk_u2_1, h22]) ((hX.u (Or.inr rfl)).u (Or.inl rfl)) ?_
      rw [show rtF S (n + 1) t = rtF S n (sf S (sgl S (gt S t))) from if_pos hg, show gbF S (n + 1) t acc = gbF S n (sf S (sgl S (gt S t))) (acc ||| (1 <<< (nI (gt S t) &&& 31))) from if_pos hg] at hQ
      exact hQ
set_option maxRecDepth 8000 in
theorem sm_findRoot {I : tkI} {J : tkJ} {R : Nat → Nat} {Q : tkQ} {S : tkS} (hP : NetP (I 6 0) S) (w : WF S) {m : Nat} (hm : m < sM S) (hQ : ∀ Y, Y 0 21 = nI (rtF S 6 m) → Y 0 22 = gbF S 6 m 0 → mRoot (I 6 0) Y → Q none (tk_so I 6 0 Y, J, R)) : tkDn tm_154 (0, [some (.inr (.inr (6, 0, 0))), some (.inl (nI m)), none], [], (I, J, R)) Q := by
  refine dn_run 6 (show tkDn tm_154 (10, [some (.inr (.inr (6, 0, 0))), some (.inl (nI m)), none], [], (tk_so (tk_so I 6 0 (tk_u2 (I 6 0) 0 21 (nI m))) 6 0 (tk_u2 (tk_u2 (I 6 0) 0 21 (nI m)) 0 22 0), J, R)) _ from ?_)
  rw [tk_so_so]
  rw [← rtF_up 6 m (up7 w m), ← gbF_up 6 m 0 (up7 w m)] at hQ
  refine sm_findRoot_loop hP w 7 m 0 _ _ (up7 w m) hm (by rw [tk_u2_0 (by decide), tk_u2_1]) (by rw [tk_u2_1]) (mRoot.u (mRoot.u (fun _ _ _ => rfl) (Or.inl rfl)) (Or.inr rfl)) hQ
set_option maxRecDepth 8000 in
theorem sm_sumOf1_loop {I : tkI} {J : tkJ} {R : Nat → Nat} {Q : tkQ} {S : tkS} (hP : NetP (I 6 0) S) (w : WF S) {mask : Int32} (hQ : Q (some (.inr (.inl (slS S mask 63 (sG S))))) (I, J, R)) : ∀ n g, g + n = sG S → tkDn tm_155 (5, [some (.inr (.inr (6, 0, 0))), some (.inl mask), some (.inl 1), some (.inr (.inl (slS S mask 63 g))), none, some (.inl (nI g))], [], (I, J, R)) Q := by
  have hM16 := w.1
  have hL60 := w.2.1
  have hG6 := w.2.2.1
  have hM := hP.m
  have hL := hP.l
  have hG := hP.g
  intro n
  induction n with
  | zero =>
    intro g hg
    show tkDn tm_155 (5, [some (.inr (.inr (6, 0, 0))), some (.inl mask), some (.inl 1), some (.inr (.inl (slS S mask 63 g))), none, some (.inl (nI g))], [], (I, J, R)) _
    refine dn_run 3 (show tkDn tm_155 (11, [some (.inr (.inr (6, 0, 0))), some (.inl mask), some (.inl 1), some (.inr (.inl (slS S mask 63 g))), none, some (.inl (nI g))], [.inl (I 6 0 0 2), .inl (nI g)], (I, J, R)) _ from ?_)
    rw [hG]
    refine dn_if rfl rfl rfl (fun (c : (nI (sG S)) ≤ (nI g)) => ?_) (fun (c : ¬ (nI (sG S)) ≤ (nI g)) => ?_)
    · show tkDn tm_155 (69, [some (.inr (.inr (6, 0, 0))), some (.inl mask), some (.inl 1), some (.inr (.inl (slS S mask 63 g))), none, some (.inl (nI g))], [], (I, J, R)) _
      refine dn_run 1 (show tkDn tm_155 (70, [some (.inr (.inr (6, 0, 0))), some (.inl mask), some (.inl 1), some (.inr (.inl (slS S mask 63 g))), none, some (.inl (nI g))], [.inr (.inl (slS S mask 63 g))], (I, J, R)) _ from ?_)
      refine dn_ret0 rfl rfl rfl rfl ?_
      rw [show g = sG S by omega]
      exact hQ
    · exact absurd (nI_le (by omega) (by omega)) c
  | succ n ih =>
    intro g hg
    have e9 := hP.gl w (g := g) (by omega)
    have hgl := w.gl (g := g) (by omega)
    have ev := hP.hi w hgl
    have hch : chL S 63 g = shi S (sgl S g) := if_pos (ch63 g (by omega))
    show tkDn tm_155 (5, [some (.inr (.inr (6, 0, 0))), some (.inl mask), some (.inl 1), some (.inr (.inl (slS S mask 63 g))), none, some (.inl (nI g))], [], (I, J, R)) _
    refine dn_run 3 (show tkDn tm_155 (11, [some (.inr (.inr (6, 0, 0))), some (.inl mask), some (.inl 1), some (.inr (.inl (slS S mask 63 g))), none, some (.inl (nI g))], [.inl (I 6 0 0 2), .inl (nI g)], (I, J, R)) _ from ?_)
    rw [hG]
    refine dn_if rfl rfl rfl (fun (c : (nI (sG S)) ≤ (nI g)) => ?_) (fun (c : ¬ (nI (sG S)) ≤ (nI g)) => ?_)
    · exact absurd c (nI_ge (by omega) (by omega))
    · show tkDn tm_155 (14, [some (.inr (.inr (6, 0, 0))), some (.inl mask), some (.inl 1), some (.inr (.inl (slS S mask 63 g))), none, some (.inl (nI g))], [], (I, J, R)) _
      refine dn_run 6 (show tkDn tm_155 (21, [some (.inr (.inr (6, 0, 0))), some (.inl mask), some (.inl 1), some (.inr (.inl (slS S mask 63 g))), none, some (.inl (nI g))], [.inl ((mask >>> ((nI g) &&& 31)) &&& 1), .inr (.inl (slS S mask 63 g))], (I, J, R)) _ from ?_)
      refine dn_if rfl rfl rfl (fun (c2 : ¬ ((mask >>> ((nI g) &&& 31)) &&& 1) = 0) => ?_) (fun (c2 : ((mask >>> ((nI g) &&& 31)) &&& 1) = 0) => ?_)
      · show tkDn tm_155 (28, [some (.inr (.inr (6, 0, 0))), some (.inl mask), some (.inl 1), some (.inr (.inl (slS S mask 63 g))), none, some (.inl (nI g))], [.inr (.inl (slS S mask 63 g))], (I, J, R)) _
        have c3 : (mask >>> (nI g &&& 31)) &&& 1 = 1 := (and1 _).resolve_left c2
        refine dn_run 1 (show tkDn tm_155 (29, [some (.inr (.inr (6, 0, 0))), some (.inl mask), some (.inl 1), some (.inr (.inl (slS S mask 63 g))), none, some (.inl (nI g))], [.inl 1, .inr (.inl (slS S mask 63 g))], (I, J, R)) _ from ?_)
        refine dn_if rfl rfl rfl (fun (c4 : ((1 : Int32) = 0 : Prop)) => ?_) (fun (c4 : (¬ (1 : Int32) = 0 : Prop)) => ?_)
        · exact absurd c4 (by decide)
        · show tkDn tm_155 (32, [some (.inr (.inr (6, 0, 0))), some (.inl mask), some (.inl 1), some (.inr (.inl (slS S mask 63 g))), none, some (.inl (nI g))], [.inr (.inl (slS S mask 63 g))], (I, J, R)) _
          refine dn_run 13 (show (vp_in (nI g) 6) ∧ (vp_in (I 6 0 9 ((nI g).toNatClampNeg)) 60) ∧ tkDn tm_155 (5, [some (.inr (.inr (6, 0, 0))), some (.inl mask), some (.inl 1), some (.inr (.inl ((slS S mask 63 g) + (((I 6 0 7 ((I 6 0 9 ((nI g).toNatClampNeg)).toNatClampNeg)) : Int32).toInt64)))), none, some (.inl ((nI g) + 1))], [], (I, J, R)) _ from ⟨vp_in_nI (by omega) (by omega), by rw [e9]; exact vp_in_nI (by omega) (by omega), ?_⟩)
          rw [e9, ev, ← hch, nI_1]
          rw [show slS S mask 63 g + (chL S 63 g).toInt64 = slS S mask 63 (g + 1) from (if_pos c3).symm]
          exact ih (g + 1) (by omega)
      · show tkDn tm_155 (24, [some (.inr (.inr (6, 0, 0))), some (.inl mask), some (.inl 1), some (.inr (.inl (slS S mask 63 g))), none, some (.inl (nI g))], [.inr (.inl (slS S mask 63 g))], (I, J, R)) _
        refine dn_run 6 (show tkDn tm_155 (5, [some (.inr (.inr (6, 0, 0))), some (.inl mask), some (.inl 1), some (.inr (.inl ((slS S mask 63 g) + 0))), none, some (.inl ((nI g) + 1))], [], (I, J, R)) _ from ?_)
        rw [nI_1, Int64.add_zero]
        rw [show slS S mask 63 g = slS S mask 63 (g + 1) from (if_neg (fun q => by rw [c2] at q; exact absurd q (by decide))).symm]
        exact ih (g + 1) (by omega)
set_option maxRecDepth 8000 in
theorem sm_sumOf1 {I : tkI} {J : tkJ} {R : Nat → Nat} {Q : tkQ} {S : tkS} (hP : NetP (I 6 0) S) (w : WF S) {mask : Int32} (hQ : Q (some (.inr (.inl (slS S mask 63 (sG S))))) (I, J, R)) : tkDn tm_155 (0, [some (.inr (.inr (6, 0, 0))), some (.inl mask), some (.inl 1), none, none, none], [], (I, J, R)) Q := by
  refine dn_run 4 (show tkDn tm_155 (5, [some (.inr (.inr (6, 0, 0))), some (.inl mask), some (.inl 1), some (.inr (.inl 0)), none, some (.inl 0)], [], (I, J, R)) _ from ?_)
  exact sm_sumOf1_loop hP w hQ (sG S) 0 (Nat.zero_add _)
set_option maxRecDepth 8000 in
theorem sm_sumOf0_loop {I : tkI} {J : tkJ} {R : Nat → Nat} {Q : tkQ} {S : tkS} (hP : NetP (I 6 0) S) (w : WF S) {mask : Int32} (hQ : Q (some (.inr (.inl (slS S mask 0 (sG S))))) (I, J, R)) : ∀ n g, g + n = sG S → tkDn tm_155 (5, [some (.inr (.inr (6, 0, 0))), some (.inl mask), some (.inl 0), some (.inr (.inl (slS S mask 0 g))), none, some (.inl (nI g))], [], (I, J, R)) Q := by
  have hM16 := w.1
  have hL60 := w.2.1
  have hG6 := w.2.2.1
  have hM := hP.m
  have hL := hP.l
  have hG := hP.g
  intro n
  induction n with
  | zero =>
    intro g hg
    show tkDn tm_155 (5, [some (.inr (.inr (6, 0, 0))), some (.inl mask), some (.inl 0), some (.inr (.inl (slS S mask 0 g))), none, some (.inl (nI g))], [], (I, J, R)) _
    refine dn_run 3 (show tkDn tm_155 (11, [some (.inr (.inr (6, 0, 0))), some (.inl mask), some (.inl 0), some (.inr (.inl (slS S mask 0 g))), none, some (.inl (nI g))], [.inl (I 6 0 0 2), .inl (nI g)], (I, J, R)) _ from ?_)
    rw [hG]
    refine dn_if rfl rfl rfl (fun (c : (nI (sG S)) ≤ (nI g)) => ?_) (fun (c : ¬ (nI (sG S)) ≤ (nI g)) => ?_)
    · show tkDn tm_155 (69, [some (.inr (.inr (6, 0, 0))), some (.inl mask), some (.inl 0), some (.inr (.inl (slS S mask 0 g))), none, some (.inl (nI g))], [], (I, J, R)) _
      refine dn_run 1 (show tkDn tm_155 (70, [some (.inr (.inr (6, 0, 0))), some (.inl mask), some (.inl 0), some (.inr (.inl (slS S mask 0 g))), none, some (.inl (nI g))], [.inr (.inl (slS S mask 0 g))], (I, J, R)) _ from ?_)
      refine dn_ret0 rfl rfl rfl rfl ?_
      rw [show g = sG S by omega]
      exact hQ
    · exact absurd (nI_le (by omega) (by omega)) c
  | succ n ih =>
    intro g hg
    have e9 := hP.gl w (g := g) (by omega)
    have hgl := w.gl (g := g) (by omega)
    have ev := hP.lo w hgl
    have hch : chL S 0 g = slo S (sgl S g) := if_neg (ch0 g (by omega))
    show tkDn tm_155 (5, [some (.inr (.inr (6, 0, 0))), some (.inl mask), some (.inl 0), some (.inr (.inl (slS S mask 0 g))), none, some (.inl (nI g))], [], (I, J, R)) _
    refine dn_run 3 (show tkDn tm_155 (11, [some (.inr (.inr (6, 0, 0))), some (.inl mask), some (.inl 0), some (.inr (.inl (slS S mask 0 g))), none, some (.inl (nI g))], [.inl (I 6 0 0 2), .inl (nI g)], (I, J, R)) _ from ?_)
    rw [hG]
    refine dn_if rfl rfl rfl (fun (c : (nI (sG S)) ≤ (nI g)) => ?_) (fun (c : ¬ (nI (sG S)) ≤ (nI g)) => ?_)
    · exact absurd c (nI_ge (by omega) (by omega))
    · show tkDn tm_155 (14, [some (.inr (.inr (6, 0, 0))), some (.inl mask), some (.inl 0), some (.inr (.inl (slS S mask 0 g))), none, some (.inl (nI g))], [], (I, J, R)) _
      refine dn_run 6 (show tkDn tm_155 (21, [some (.inr (.inr (6, 0, 0))), some (.inl mask), some (.inl 0), some (.inr (.inl (slS S mask 0 g))), none, some (.inl (nI g))], [.inl ((mask >>> ((nI g) &&& 31)) &&& 1), .inr (.inl (slS S mask 0 g))], (I, J, R)) _ from ?_)
      refine dn_if rfl rfl rfl (fun (c2 : ¬ ((mask >>> ((nI g) &&& 31)) &&& 1) = 0) => ?_) (fun (c2 : ((mask >>> ((nI g) &&& 31)) &&& 1) = 0) => ?_)
      · show tkDn tm_155 (28, [some (.inr (.inr (6, 0, 0))), some (.inl mask), some (.inl 0), some (.inr (.inl (slS S mask 0 g))), none, some (.inl (nI g))], [.inr (.inl (slS S mask 0 g))], (I, J, R)) _
        have c3 : (mask >>> (nI g &&& 31)) &&& 1 = 1 := (and1 _).resolve_left c2
        refine dn_run 1 (show tkDn tm_155 (29, [some (.inr (.inr (6, 0, 0))), some (.inl mask), some (.inl 0), some (.inr (.inl (slS S mask 0 g))), none, some (.inl (nI g))], [.inl 0, .inr (.inl (slS S mask 0 g))], (I, J, R)) _ from ?_)
        refine dn_if rfl rfl rfl (fun (c4 : ((0 : Int32) = 0 : Prop)) => ?_) (fun (c4 : (¬ (0 : Int32) = 0 : Prop)) => ?_)
        · show tkDn tm_155 (48, [some (.inr (.inr (6, 0, 0))), some (.inl mask), some (.inl 0), some (.inr (.inl (slS S mask 0 g))), none, some (.inl (nI g))], [.inr (.inl (slS S mask 0 g))], (I, J, R)) _
          refine dn_run 12 (show (vp_in (nI g) 6) ∧ (vp_in (I 6 0 9 ((nI g).toNatClampNeg)) 60) ∧ tkDn tm_155 (5, [some (.inr (.inr (6, 0, 0))), some (.inl mask), some (.inl 0), some (.inr (.inl ((slS S mask 0 g) + (((I 6 0 6 ((I 6 0 9 ((nI g).toNatClampNeg)).toNatClampNeg)) : Int32).toInt64)))), none, some (.inl ((nI g) + 1))], [], (I, J, R)) _ from ⟨vp_in_nI (by omega) (by omega), by rw [e9]; exact vp_in_nI (by omega) (by omega), ?_⟩)
          rw [e9, ev, ← hch, nI_1]
          rw [show slS S mask 0 g + (chL S 0 g).toInt64 = slS S mask 0 (g + 1) from (if_pos c3).symm]
          exact ih (g + 1) (by omega)
        · exact absurd rfl c4
      · show tkDn tm_155 (24, [some (.inr (.inr (6, 0, 0))), some (.inl mask), some (.inl 0), some (.inr (.inl (slS S mask 0 g))), none, some (.inl (nI g))], [.inr (.inl (slS S mask 0 g))], (I, J, R)) _
        refine dn_run 6 (show tkDn tm_155 (5, [some (.inr (.inr (6, 0, 0))), some (.inl mask), some (.inl 0), some (.inr (.inl ((slS S mask 0 g) + 0))), none, some (.inl ((nI g) + 1))], [], (I, J, R)) _ from ?_)
        rw [nI_1, Int64.add_zero]
        rw [show slS S mask 0 g = slS S mask 0 (g + 1) from (if_neg (fun q => by rw [c2] at q; exact absurd q (by decide))).symm]
        exact ih (g + 1) (by omega)
set_option maxRecDepth 8000 in
theorem sm_sumOf0 {I : tkI} {J : tkJ} {R : Nat → Nat} {Q : tkQ} {S : tkS} (hP : NetP (I 6 0) S) (w : WF S) {mask : Int32} (hQ : Q (some (.inr (.inl (slS S mask 0 (sG S))))) (I, J, R)) : tkDn tm_155 (0, [some (.inr (.inr (6, 0, 0))), some (.inl mask), some (.inl 0), none, none, none], [], (I, J, R)) Q := by
  refine dn_run 4 (show tkDn tm_155 (5, [some (.inr (.inr (6, 0, 0))), some (.inl mask), some (.inl 0), some (.inr (.inl 0)), none, some (.inl 0)], [], (I, J, R)) _ from ?_)
  exact sm_sumOf0_loop hP w hQ (sG S) 0 (Nat.zero_add _)
set_option maxRecDepth 8000 in
theorem sm_spoiling_loop {I : tkI} {J : tkJ} {R : Nat → Nat} {Q : tkQ} {S : tkS} (hP : NetP (I 6 0) S) (w : WF S) : ∀ n k r, k + n = 2 ^ sG S → (∀ r, Q (some (.inl (mskF S n k))) (I, tk_so J 6 0 (tk_u1 (J 6 0) 21 r), R)) → tkDn tm_157 (2, [some (.inr (.inr (6, 0, 0))), some (.inl (nI k))], [], (I, tk_so J 6 0 (tk_u1 (J 6 0) 21 r), R)) Q := by
  have hM16 := w.1
  have hL60 := w.2.1
  have hG6 := w.2.2.1
  have hM := hP.m
  have hL := hP.l
  have hG := hP.g
  have h64 := pw2 (sG S) (by omega)
  intro n
  induction n with
  | zero =>
    intro k r hk hQ
    show tkDn tm_157 (2, [some (.inr (.inr (6, 0, 0))), some (.inl (nI k))], [], (I, tk_so J 6 0 (tk_u1 (J 6 0) 21 r), R)) _
    refine dn_run 5 (show tkDn tm_157 (9, [some (.inr (.inr (6, 0, 0))), some (.inl (nI k))], [.inl (1 <<< ((I 6 0 0 2) &&& 31)), .inl (nI k)], (I, tk_so J 6 0 (tk_u1 (J 6 0) 21 r), R)) _ from ?_)
    rw [hG, shl1 (sG S) (by omega)]
    refine dn_if rfl rfl rfl (fun (c : (nI (2 ^ sG S)) ≤ (nI k)) => ?_) (fun (c : ¬ (nI (2 ^ sG S)) ≤ (nI k)) => ?_)
    · show tkDn tm_157 (36, [some (.inr (.inr (6, 0, 0))), some (.inl (nI k))], [], (I, tk_so J 6 0 (tk_u1 (J 6 0) 21 r), R)) _
      refine dn_run 1 (show tkDn tm_157 (37, [some (.inr (.inr (6, 0, 0))), some (.inl (nI k))], [.inl (-1)], (I, tk_so J 6 0 (tk_u1 (J 6 0) 21 r), R)) _ from ?_)
      refine dn_ret0 rfl rfl rfl rfl ?_
      exact hQ r
    · exact absurd (nI_le (by omega) (by omega)) c
  | succ n ih =>
    intro k r hk hQ
    show tkDn tm_157 (2, [some (.inr (.inr (6, 0, 0))), some (.inl (nI k))], [], (I, tk_so J 6 0 (tk_u1 (J 6 0) 21 r), R)) _
    refine dn_run 5 (show tkDn tm_157 (9, [some (.inr (.inr (6, 0, 0))), some (.inl (nI k))], [.inl (1 <<< ((I 6 0 0 2) &&& 31)), .inl (nI k)], (I, tk_so J 6 0 (tk_u1 (J 6 0) 21 r), R)) _ from ?_)
    rw [hG, shl1 (sG S) (by omega)]
    refine dn_if rfl rfl rfl (fun (c : (nI (2 ^ sG S)) ≤ (nI k)) => ?_) (fun (c : ¬ (nI (2 ^ sG S)) ≤ (nI k)) => ?_)
    · exact absurd c (nI_ge (by omega) (by omega))
    · show tkDn tm_157 (12, [some (.inr (.inr (6, 0, 0))), some (.inl (nI k))], [], (I, tk_so J 6 0 (tk_u1 (J 6 0) 21 r), R)) _
      refine dn_run 2 (show tkDn tm_157 (14, [some (.inr (.inr (6, 0, 0))), some (.inl (nI k))], [.inl (nI k), .inr (.inr (6, 0, 0))], (I, tk_so J 6 0 (tk_u1 (J 6 0) 21 r), R)) _ from ?_)
      refine dn_call rfl rfl rfl rfl rfl (sm_layLinks hP w (fun r hr => ?_))
      rw [tk_so_so, tk_so_same, tk_u1_u1]
      show tkDn tm_157 (17, [some (.inr (.inr (6, 0, 0))), some (.inl (nI k))], [], (I, tk_so J 6 0 (tk_u1 (J 6 0) 21 r), R)) _
      refine dn_run 3 (show tkDn tm_157 (22, [some (.inr (.inr (6, 0, 0))), some (.inl (nI k))], [.inl (I 6 0 0 0), .inr (.inr (6, 0, 0))], (I, tk_so J 6 0 (tk_u1 (J 6 0) 21 r), R)) _ from ?_)
      rw [hM]
      show tkDn tm_157 (22, [some (.inr (.inr (6, 0, 0))), some (.inl (nI k))], [.inl (nI (sM S)), .inr (.inr (6, 0, 0))], (I, tk_so J 6 0 (tk_u1 (J 6 0) 21 r), R)) _
      refine dn_call rfl rfl rfl rfl rfl (sm_closes (d := mlM S (nI k) (sL S)) hM16 hr (fun r3 hr3 => ?_))
      rw [tk_so_so, tk_so_same, tk_u1_u1]
      show tkDn tm_157 (25, [some (.inr (.inr (6, 0, 0))), some (.inl (nI k))], [.inl (if (mcF (mlM S (nI k) (sL S)) (sM S)).1 = true then 1 else 0)], (I, tk_so J 6 0 (tk_u1 (J 6 0) 21 r3), R)) _
      refine dn_if rfl rfl rfl (fun (c2 : ¬ (if (mcF (mlM S (nI k) (sL S)) (sM S)).1 = true then 1 else 0) = 0) => ?_) (fun (c2 : (if (mcF (mlM S (nI k) (sL S)) (sM S)).1 = true then 1 else 0) = 0) => ?_)
      · show tkDn tm_157 (30, [some (.inr (.inr (6, 0, 0))), some (.inl (nI k))], [], (I, tk_so J 6 0 (tk_u1 (J 6 0) 21 r3), R)) _
        have hm : (mtog S (nI k)).1 = true := by by_cases z : (mtog S (nI k)).1 = true; exact z; exact absurd (if_neg z) c2
        refine dn_run 2 (show tkDn tm_157 (2, [some (.inr (.inr (6, 0, 0))), some (.inl ((nI k) + 1))], [], (I, tk_so J 6 0 (tk_u1 (J 6 0) 21 r3), R)) _ from ?_)
        rw [nI_1]
        rw [show mskF S (n + 1) k = mskF S n (k + 1) from if_pos hm] at hQ
        exact ih (k + 1) r3 (by omega) hQ
      · show tkDn tm_157 (28, [some (.inr (.inr (6, 0, 0))), some (.inl (nI k))], [], (I, tk_so J 6 0 (tk_u1 (J 6 0) 21 r3), R)) _
        refine dn_run 1 (show tkDn tm_157 (29, [some (.inr (.inr (6, 0, 0))), some (.inl (nI k))], [.inl (nI k)], (I, tk_so J 6 0 (tk_u1 (J 6 0) 21 r3), R)) _ from ?_)
        refine dn_ret0 rfl rfl rfl rfl ?_
        have hm : ¬ (mtog S (nI k)).1 = true := fun z => by rw [show (mcF (mlM S (nI k) (sL S)) (sM S)).1 = true from z] at c2; exact absurd c2 (by decide)
        rw [show mskF S (n + 1) k = nI k from if_neg hm] at hQ
        exact hQ r3
set_option maxRecDepth 8000 in
theorem sm_spoiling {I : tkI} {J : tkJ} {R : Nat → Nat} {Q : tkQ} {S : tkS} (hP : NetP (I 6 0) S) (w : WF S) (hQ : ∀ r, Q (some (.inl (mspo S))) (I, tk_so J 6 0 (tk_u1 (J 6 0) 21 r), R)) : tkDn tm_157 (0, [some (.inr (.inr (6, 0, 0))), none], [], (I, J, R)) Q := by
  refine dn_run 2 (show tkDn tm_157 (2, [some (.inr (.inr (6, 0, 0))), some (.inl 0)], [], (I, J, R)) _ from ?_)
  have := sm_spoiling_loop (J := J) hP w (2 ^ sG S) 0 (J 6 0 21) (Nat.zero_add _) hQ
  rw [jr_id] at this
  exact this
set_option maxRecDepth 8000 in
theorem sm_weak {I : tkI} {J : tkJ} {R : Nat → Nat} {Q : tkQ} {S : tkS} (hP : NetP (I 6 0) S) (w : WF S) (hQ : ∀ r, Q (some (.inl (if mspo S < 0 then 1 else 0))) (I, tk_so J 6 0 (tk_u1 (J 6 0) 21 r), R)) : tkDn tm_158 (0, [some (.inr (.inr (6, 0, 0)))], [], (I, J, R)) Q := by
  refine dn_run 1 (show tkDn tm_158 (1, [some (.inr (.inr (6, 0, 0)))], [.inr (.inr (6, 0, 0))], (I, J, R)) _ from ?_)
  refine dn_call rfl rfl rfl rfl rfl (sm_spoiling hP w (fun r => ?_))
  show tkDn tm_158 (4, [some (.inr (.inr (6, 0, 0)))], [.inl (mspo S)], (I, tk_so J 6 0 (tk_u1 (J 6 0) 21 r), R)) _
  refine dn_if rfl rfl rfl (fun (c : 0 ≤ (mspo S)) => ?_) (fun (c : ¬ 0 ≤ (mspo S)) => ?_)
  · show tkDn tm_158 (11, [some (.inr (.inr (6, 0, 0)))], [], (I, tk_so J 6 0 (tk_u1 (J 6 0) 21 r), R)) _
    refine dn_run 1 (show tkDn tm_158 (12, [some (.inr (.inr (6, 0, 0)))], [.inl 0], (I, tk_so J 6 0 (tk_u1 (J 6 0) 21 r), R)) _ from ?_)
    refine dn_ret0 rfl rfl rfl rfl ?_
    have := hQ r
    rw [if_neg (Int32.not_lt.mpr c)] at this
    exact this
  · show tkDn tm_158 (7, [some (.inr (.inr (6, 0, 0)))], [], (I, tk_so J 6 0 (tk_u1 (J 6 0) 21 r), R)) _
    refine dn_run 2 (show tkDn tm_158 (12, [some (.inr (.inr (6, 0, 0)))], [.inl 1], (I, tk_so J 6 0 (tk_u1 (J 6 0) 21 r), R)) _ from ?_)
    refine dn_ret0 rfl rfl rfl rfl ?_
    have := hQ r
    rw [if_pos (Int32.not_le.mp c)] at this
    exact this
def mspl (S : tkS) (g : Int32) : Int32 := if 0 ≤ g ∧ g < nI (sG S) then (if mspo S < 0 then -13 else chL S (mspo S) g.toNatClampNeg) else -11
set_option maxRecDepth 8000 in
theorem sm_spoiler {I : tkI} {J : tkJ} {R : Nat → Nat} {Q : tkQ} {S : tkS} (hP : NetP (I 6 0) S) (w : WF S) {g : Int32} (hQ : ∀ r, Q (some (.inl (mspl S g))) (I, tk_so J 6 0 (tk_u1 (J 6 0) 21 r), R)) : tkDn tm_159 (0, [some (.inr (.inr (6, 0, 0))), some (.inl g), none], [], (I, J, R)) Q := by
  have hM16 := w.1
  have hL60 := w.2.1
  have hG6 := w.2.2.1
  have hM := hP.m
  have hL := hP.l
  have hG := hP.g
  have hiff : (0 ≤ g ∧ g ≤ I 6 0 0 2 - 1) ↔ (0 ≤ g ∧ g < nI (sG S)) := by rw [hG, le_pred (by omega)]
  refine dn_run 6 (show tkDn tm_159 (8, [some (.inr (.inr (6, 0, 0))), some (.inl g), none], [.inl ((I 6 0 0 2) - 1), .inl 0, .inl g], (I, J, R)) _ from ?_)
  refine dn_call rfl rfl rfl rfl rfl (sm_in ?_)
  show tkDn tm_159 (11, [some (.inr (.inr (6, 0, 0))), some (.inl g), none], [.inl (if 0 ≤ g ∧ g ≤ I 6 0 0 2 - 1 then 1 else 0)], (I, J, R)) _
  refine dn_if rfl rfl rfl (fun (c1 : ¬ (if 0 ≤ g ∧ g ≤ I 6 0 0 2 - 1 then 1 else 0) = 0) => ?_) (fun (c1 : (if 0 ≤ g ∧ g ≤ I 6 0 0 2 - 1 then 1 else 0) = 0) => ?_)
  · show tkDn tm_159 (17, [some (.inr (.inr (6, 0, 0))), some (.inl g), none], [], (I, J, R)) _
    have hk : 0 ≤ g ∧ g < nI (sG S) := by by_cases q : 0 ≤ g ∧ g ≤ I 6 0 0 2 - 1; exact hiff.mp q; exact absurd (if_neg q) c1
    clear c1 hiff
    obtain ⟨j, hj, rfl⟩ : ∃ j, j < sG S ∧ g = nI j := by obtain ⟨j, hj, rfl⟩ := nI_of (Int32.not_lt.mpr hk.1); exact ⟨j, (nI_ltI hj (by omega)).mp hk.2, rfl⟩
    have hcl : (nI j).toNatClampNeg = j := nI_clamp (by omega)
    have e9 := hP.gl w hj
    have hgl := w.gl hj
    have e7 := hP.hi w hgl
    have e6 := hP.lo w hgl
    refine dn_run 1 (show tkDn tm_159 (18, [some (.inr (.inr (6, 0, 0))), some (.inl (nI j)), none], [.inr (.inr (6, 0, 0))], (I, J, R)) _ from ?_)
    refine dn_call rfl rfl rfl rfl rfl (sm_spoiling hP w (fun r => ?_))
    show tkDn tm_159 (21, [some (.inr (.inr (6, 0, 0))), some (.inl (nI j)), none], [.inl (mspo S)], (I, tk_so J 6 0 (tk_u1 (J 6 0) 21 r), R)) _
    refine dn_run 2 (show tkDn tm_159 (23, [some (.inr (.inr (6, 0, 0))), some (.inl (nI j)), some (.inl (mspo S))], [.inl (mspo S)], (I, tk_so J 6 0 (tk_u1 (J 6 0) 21 r), R)) _ from ?_)
    refine dn_if rfl rfl rfl (fun (c2 : 0 ≤ (mspo S)) => ?_) (fun (c2 : ¬ 0 ≤ (mspo S)) => ?_)
    · show tkDn tm_159 (31, [some (.inr (.inr (6, 0, 0))), some (.inl (nI j)), some (.inl (mspo S))], [], (I, tk_so J 6 0 (tk_u1 (J 6 0) 21 r), R)) _
      refine dn_run 6 (show tkDn tm_159 (37, [some (.inr (.inr (6, 0, 0))), some (.inl (nI j)), some (.inl (mspo S))], [.inl 1, .inl (((mspo S) >>> ((nI j) &&& 31)) &&& 1)], (I, tk_so J 6 0 (tk_u1 (J 6 0) 21 r), R)) _ from ?_)
      refine dn_if rfl rfl rfl (fun (c3 : ¬ (((mspo S) >>> ((nI j) &&& 31)) &&& 1) = 1) => ?_) (fun (c3 : (((mspo S) >>> ((nI j) &&& 31)) &&& 1) = 1) => ?_)
      · show tkDn tm_159 (54, [some (.inr (.inr (6, 0, 0))), some (.inl (nI j)), some (.inl (mspo S))], [], (I, tk_so J 6 0 (tk_u1 (J 6 0) 21 r), R)) _
        refine dn_run 7 (show (vp_in (nI j) 6) ∧ (vp_in (I 6 0 9 ((nI j).toNatClampNeg)) 60) ∧ tkDn tm_159 (65, [some (.inr (.inr (6, 0, 0))), some (.inl (nI j)), some (.inl (mspo S))], [.inl (I 6 0 6 ((I 6 0 9 ((nI j).toNatClampNeg)).toNatClampNeg))], (I, tk_so J 6 0 (tk_u1 (J 6 0) 21 r), R)) _ from ⟨vp_in_nI (by omega) (by omega), by show vp_in (I 6 0 9 _) 60; rw [e9]; exact vp_in_nI (by omega) (by omega), ?_⟩)
        rw [e9, e6]
        refine dn_ret0 rfl rfl rfl rfl ?_
        have := hQ r
        rw [show mspl S (nI j) = slo S (sgl S j) by unfold mspl; rw [if_pos hk, if_neg (Int32.not_lt.mpr c2), hcl]; exact if_neg c3] at this
        exact this
      · show tkDn tm_159 (40, [some (.inr (.inr (6, 0, 0))), some (.inl (nI j)), some (.inl (mspo S))], [], (I, tk_so J 6 0 (tk_u1 (J 6 0) 21 r), R)) _
        refine dn_run 8 (show (vp_in (nI j) 6) ∧ (vp_in (I 6 0 9 ((nI j).toNatClampNeg)) 60) ∧ tkDn tm_159 (65, [some (.inr (.inr (6, 0, 0))), some (.inl (nI j)), some (.inl (mspo S))], [.inl (I 6 0 7 ((I 6 0 9 ((nI j).toNatClampNeg)).toNatClampNeg))], (I, tk_so J 6 0 (tk_u1 (J 6 0) 21 r), R)) _ from ⟨vp_in_nI (by omega) (by omega), by show vp_in (I 6 0 9 _) 60; rw [e9]; exact vp_in_nI (by omega) (by omega), ?_⟩)
        rw [e9, e7]
        refine dn_ret0 rfl rfl rfl rfl ?_
        have := hQ r
        rw [show mspl S (nI j) = shi S (sgl S j) by unfold mspl; rw [if_pos hk, if_neg (Int32.not_lt.mpr c2), hcl]; exact if_pos c3] at this
        exact this
    · show tkDn tm_159 (26, [some (.inr (.inr (6, 0, 0))), some (.inl (nI j)), some (.inl (mspo S))], [], (I, tk_so J 6 0 (tk_u1 (J 6 0) 21 r), R)) _
      refine dn_run 2 (show tkDn tm_159 (65, [some (.inr (.inr (6, 0, 0))), some (.inl (nI j)), some (.inl (mspo S))], [.inl (-13)], (I, tk_so J 6 0 (tk_u1 (J 6 0) 21 r), R)) _ from ?_)
      refine dn_ret0 rfl rfl rfl rfl ?_
      have := hQ r
      rw [show mspl S (nI j) = -13 by unfold mspl; rw [if_pos hk, if_pos (Int32.not_le.mp c2)]] at this
      exact this
  · show tkDn tm_159 (14, [some (.inr (.inr (6, 0, 0))), some (.inl g), none], [], (I, J, R)) _
    refine dn_run 1 (show tkDn tm_159 (16, [some (.inr (.inr (6, 0, 0))), some (.inl g), none], [.inl (-11)], (I, J, R)) _ from ?_)
    refine dn_ret0 rfl rfl rfl rfl ?_
    have := hQ (J 6 0 21)
    rw [jr_id, show mspl S g = -11 from if_neg (fun q => by rw [if_pos (hiff.mpr q)] at c1; exact absurd c1 (by decide))] at this
    exact this
end
section
/-! the reference: strong -/
set_option maxRecDepth 8000 in
theorem sm_strong_loop {I : tkI} {J : tkJ} {R : Nat → Nat} {Q : tkQ} {S : tkS} (hP : NetP (I 6 0) S) (w : WF S) (hQ : ∀ X r, mRoot (I 6 0) X → Q (some (.inl (if (mstr S).1 = true then 1 else 0))) (tk_so I 6 0 X, tk_so J 6 0 (tk_u1 (J 6 0) 21 r), R)) : ∀ n l r X o2 o3 o4 o5 o6 o7 o9, l + n = sL S → mRoot (I 6 0) X → RowP (sM S) r (mstM S l) → tkDn tm_156 (10, [some (.inr (.inr (6, 0, 0))), some (.inl (nI l)), o2, o3, o4, o5, o6, o7, none, o9, none], [], (tk_so I 6 0 X, tk_so J 6 0 (tk_u1 (J 6 0) 21 r), R)) Q := by
  have hM16 := w.1
  have hL60 := w.2.1
  have hG6 := w.2.2.1
  intro n
  induction n with
  | zero =>
    intro l r X o2 o3 o4 o5 o6 o7 o9 hl hX hr
    have hPX := hX.net hP
    have hPX2 : NetP (tk_so I 6 0 X 6 0) S := by rw [tk_so_same]; exact hPX
    have hL := hPX.l
    have hM := hPX.m
    have hl : l = sL S := by omega
    rw [hl] at hr
    show tkDn tm_156 (10, [some (.inr (.inr (6, 0, 0))), some (.inl (nI l)), o2, o3, o4, o5, o6, o7, none, o9, none], [], (tk_so I 6 0 X, tk_so J 6 0 (tk_u1 (J 6 0) 21 r), R)) _
    refine dn_run 3 (show tkDn tm_156 (15, [some (.inr (.inr (6, 0, 0))), some (.inl (nI l)), o2, o3, o4, o5, o6, o7, none, o9, none], [.inl (X 0 1), .inl (nI l)], (tk_so I 6 0 X, tk_so J 6 0 (tk_u1 (J 6 0) 21 r), R)) _ from ?_)
    rw [hL]
    refine dn_if rfl rfl rfl (fun (c : (nI (sL S)) ≤ (nI l)) => ?_) (fun (c : ¬ (nI (sL S)) ≤ (nI l)) => ?_)
    · show tkDn tm_156 (157, [some (.inr (.inr (6, 0, 0))), some (.inl (nI l)), o2, o3, o4, o5, o6, o7, none, o9, none], [], (tk_so I 6 0 X, tk_so J 6 0 (tk_u1 (J 6 0) 21 r), R)) _
      refine dn_run 3 (show tkDn tm_156 (162, [some (.inr (.inr (6, 0, 0))), some (.inl (nI l)), o2, o3, o4, o5, o6, o7, none, o9, none], [.inl (X 0 0), .inr (.inr (6, 0, 0))], (tk_so I 6 0 X, tk_so J 6 0 (tk_u1 (J 6 0) 21 r), R)) _ from ?_)
      rw [hM]
      show tkDn tm_156 (162, [some (.inr (.inr (6, 0, 0))), some (.inl (nI l)), o2, o3, o4, o5, o6, o7, none, o9, none], [.inl (nI (sM S)), .inr (.inr (6, 0, 0))], (tk_so I 6 0 X, tk_so J 6 0 (tk_u1 (J 6 0) 21 r), R)) _
      refine dn_call rfl rfl rfl rfl rfl (sm_closes (d := mstM S (sL S)) hM16 hr (fun r3 hr3 => ?_))
      rw [tk_so_so, tk_so_same, tk_u1_u1]
      show tkDn tm_156 (165, [some (.inr (.inr (6, 0, 0))), some (.inl (nI l)), o2, o3, o4, o5, o6, o7, none, o9, none], [.inl (if (mcF (mstM S (sL S)) (sM S)).1 = true then 1 else 0)], (tk_so I 6 0 X, tk_so J 6 0 (tk_u1 (J 6 0) 21 r3), R)) _
      refine dn_if rfl rfl rfl (fun (c2 : (if (mcF (mstM S (sL S)) (sM S)).1 = true then 1 else 0) = 0) => ?_) (fun (c2 : ¬ (if (mcF (mstM S (sL S)) (sM S)).1 = true then 1 else 0) = 0) => ?_)
      · show tkDn tm_156 (172, [some (.inr (.inr (6, 0, 0))), some (.inl (nI l)), o2, o3, o4, o5, o6, o7, none, o9, none], [], (tk_so I 6 0 X, tk_so J 6 0 (tk_u1 (J 6 0) 21 r3), R)) _
        refine dn_run 1 (show tkDn tm_156 (173, [some (.inr (.inr (6, 0, 0))), some (.inl (nI l)), o2, o3, o4, o5, o6, o7, none, o9, none], [.inl 0], (tk_so I 6 0 X, tk_so J 6 0 (tk_u1 (J 6 0) 21 r3), R)) _ from ?_)
        refine dn_ret0 rfl rfl rfl rfl ?_
        have e : ¬ (mstr S).1 = true := fun q => by rw [show (mcF (mstM S (sL S)) (sM S)).1 = true from q] at c2; exact absurd c2 (by decide)
        have := hQ X r3 hX
        rw [if_neg e] at this
        exact this
      · show tkDn tm_156 (168, [some (.inr (.inr (6, 0, 0))), some (.inl (nI l)), o2, o3, o4, o5, o6, o7, none, o9, none], [], (tk_so I 6 0 X, tk_so J 6 0 (tk_u1 (J 6 0) 21 r3), R)) _
        refine dn_run 2 (show tkDn tm_156 (173, [some (.inr (.inr (6, 0, 0))), some (.inl (nI l)), o2, o3, o4, o5, o6, o7, none, o9, none], [.inl 1], (tk_so I 6 0 X, tk_so J 6 0 (tk_u1 (J 6 0) 21 r3), R)) _ from ?_)
        refine dn_ret0 rfl rfl rfl rfl ?_
        have e : (mstr S).1 = true := by by_cases q : (mstr S).1 = true; exact q; exact absurd (if_neg q) c2
        have := hQ X r3 hX
        rw [if_pos e] at this
        exact this
    · exact absurd (nI_le (by omega) (by omega)) c
  | succ n ih =>
    intro l r X o2 o3 o4 o5 o6 o7 o9 hl hX hr
    have hPX := hX.net hP
    have hPX2 : NetP (tk_so I 6 0 X 6 0) S := by rw [tk_so_same]; exact hPX
    have hL := hPX.l
    have hM := hPX.m
    have hf := w.fM (j := l) (by omega)
    have he := w.eM (j := l) (by omega)
    have hra := rtF_lt w 6 _ hf
    have hrb := rtF_lt w 6 _ he
    have e8 := hPX.gn w (j := l) (by omega)
    have e4 := hPX.fr w (j := l) (by omega)
    show tkDn tm_156 (10, [some (.inr (.inr (6, 0, 0))), some (.inl (nI l)), o2, o3, o4, o5, o6, o7, none, o9, none], [], (tk_so I 6 0 X, tk_so J 6 0 (tk_u1 (J 6 0) 21 r), R)) _
    refine dn_run 3 (show tkDn tm_156 (15, [some (.inr (.inr (6, 0, 0))), some (.inl (nI l)), o2, o3, o4, o5, o6, o7, none, o9, none], [.inl (X 0 1), .inl (nI l)], (tk_so I 6 0 X, tk_so J 6 0 (tk_u1 (J 6 0) 21 r), R)) _ from ?_)
    rw [hL]
    refine dn_if rfl rfl rfl (fun (c : (nI (sL S)) ≤ (nI l)) => ?_) (fun (c : ¬ (nI (sL S)) ≤ (nI l)) => ?_)
    · exact absurd c (nI_ge (by omega) (by omega))
    · show tkDn tm_156 (18, [some (.inr (.inr (6, 0, 0))), some (.inl (nI l)), o2, o3, o4, o5, o6, o7, none, o9, none], [], (tk_so I 6 0 X, tk_so J 6 0 (tk_u1 (J 6 0) 21 r), R)) _
      refine dn_run 4 (show (vp_in (nI l) 60) ∧ tkDn tm_156 (24, [some (.inr (.inr (6, 0, 0))), some (.inl (nI l)), o2, o3, o4, o5, o6, o7, none, o9, none], [.inl (X 8 ((nI l).toNatClampNeg))], (tk_so I 6 0 X, tk_so J 6 0 (tk_u1 (J 6 0) 21 r), R)) _ from ⟨vp_in_nI (by omega) (by omega), ?_⟩)
      rw [e8]
      refine dn_if rfl rfl rfl (fun (c2 : 0 ≤ (sgn S l)) => ?_) (fun (c2 : ¬ 0 ≤ (sgn S l)) => ?_)
      · show tkDn tm_156 (151, [some (.inr (.inr (6, 0, 0))), some (.inl (nI l)), o2, o3, o4, o5, o6, o7, none, o9, none], [], (tk_so I 6 0 X, tk_so J 6 0 (tk_u1 (J 6 0) 21 r), R)) _
        refine dn_run 2 (show tkDn tm_156 (10, [some (.inr (.inr (6, 0, 0))), some (.inl ((nI l) + 1)), o2, o3, o4, o5, o6, o7, none, o9, none], [], (tk_so I 6 0 X, tk_so J 6 0 (tk_u1 (J 6 0) 21 r), R)) _ from ?_)
        rw [nI_1]
        exact ih (l + 1) r X _ _ _ _ _ _ _ (by omega) hX (by rw [show mstM S (l + 1) = mstM S l from if_neg (Int32.not_lt.mpr c2)]; exact hr)
      · show tkDn tm_156 (27, [some (.inr (.inr (6, 0, 0))), some (.inl (nI l)), o2, o3, o4, o5, o6, o7, none, o9, none], [], (tk_so I 6 0 X, tk_so J 6 0 (tk_u1 (J 6 0) 21 r), R)) _
        have c2 := Int32.not_le.mp c2
        refine dn_run 5 (show (vp_in (nI l) 60) ∧ tkDn tm_156 (34, [some (.inr (.inr (6, 0, 0))), some (.inl (nI l)), o2, o3, o4, o5, o6, o7, none, o9, none], [.inl (X 4 ((nI l).toNatClampNeg)), .inr (.inr (6, 0, 0))], (tk_so I 6 0 X, tk_so J 6 0 (tk_u1 (J 6 0) 21 r), R)) _ from ⟨vp_in_nI (by omega) (by omega), ?_⟩)
        rw [e4]
        show tkDn tm_156 (34, [some (.inr (.inr (6, 0, 0))), some (.inl (nI l)), o2, o3, o4, o5, o6, o7, none, o9, none], [.inl (nI (sf S l)), .inr (.inr (6, 0, 0))], (tk_so I 6 0 X, tk_so J 6 0 (tk_u1 (J 6 0) 21 r), R)) _
        refine dn_call rfl rfl rfl rfl rfl (sm_findRoot hPX2 w hf (fun Y h21Y h22Y hYY => ?_))
        rw [tk_so_so]
        rw [tk_so_same] at hYY
        show tkDn tm_156 (37, [some (.inr (.inr (6, 0, 0))), some (.inl (nI l)), o2, o3, o4, o5, o6, o7, none, o9, none], [], (tk_so I 6 0 Y, tk_so J 6 0 (tk_u1 (J 6 0) 21 r), R)) _
        have hY1 := hX.trans hYY
        have hPY := hY1.net hP
        have hPY2 : NetP (tk_so I 6 0 Y 6 0) S := by rw [tk_so_same]; exact hPY
        have e5 := hPY.en w (j := l) (by omega)
        refine dn_run 11 (show (vp_in (nI l) 60) ∧ tkDn tm_156 (54, [some (.inr (.inr (6, 0, 0))), some (.inl (nI l)), some (.inl (Y 0 21)), some (.inl (Y 0 22)), o4, o5, o6, o7, none, o9, none], [.inl (Y 5 ((nI l).toNatClampNeg)), .inr (.inr (6, 0, 0))], (tk_so I 6 0 Y, tk_so J 6 0 (tk_u1 (J 6 0) 21 r), R)) _ from ⟨vp_in_nI (by omega) (by omega), ?_⟩)
        rw [h21Y, h22Y, e5]
        show tkDn tm_156 (54, [some (.inr (.inr (6, 0, 0))), some (.inl (nI l)), some (.inl (nI (rtF S 6 (sf S l)))), some (.inl (gbF S 6 (sf S l) 0)), o4, o5, o6, o7, none, o9, none], [.inl (nI (se S l)), .inr (.inr (6, 0, 0))], (tk_so I 6 0 Y, tk_so J 6 0 (tk_u1 (J 6 0) 21 r), R)) _
        refine dn_call rfl rfl rfl rfl rfl (sm_findRoot hPY2 w he (fun Z h21Z h22Z hYZ => ?_))
        rw [tk_so_so]
        rw [tk_so_same] at hYZ
        show tkDn tm_156 (57, [some (.inr (.inr (6, 0, 0))), some (.inl (nI l)), some (.inl (nI (rtF S 6 (sf S l)))), some (.inl (gbF S 6 (sf S l) 0)), o4, o5, o6, o7, none, o9, none], [], (tk_so I 6 0 Z, tk_so J 6 0 (tk_u1 (J 6 0) 21 r), R)) _
        have hZ1 := hY1.trans hYZ
        have hPZ := hZ1.net hP
        have hPZ2 : NetP (tk_so I 6 0 Z 6 0) S := by rw [tk_so_same]; exact hPZ
        have e7 := hPZ.hi w (j := l) (by omega)
        have e6 := hPZ.lo w (j := l) (by omega)
        refine dn_run 20 (show tkDn tm_156 (87, [some (.inr (.inr (6, 0, 0))), some (.inl (nI l)), some (.inl (nI (rtF S 6 (sf S l)))), some (.inl (gbF S 6 (sf S l) 0)), some (.inl (Z 0 21)), some (.inl ((gbF S 6 (sf S l) 0) &&& ((Z 0 22) ^^^ (-1)))), some (.inl ((Z 0 22) &&& ((gbF S 6 (sf S l) 0) ^^^ (-1)))), o7, none, o9, none], [.inl 1, .inl ((Z 0 22) &&& ((gbF S 6 (sf S l) 0) ^^^ (-1))), .inr (.inr (6, 0, 0))], (tk_so I 6 0 Z, tk_so J 6 0 (tk_u1 (J 6 0) 21 r), R)) _ from ?_)
        rw [h21Z, h22Z]
        show tkDn tm_156 (87, [some (.inr (.inr (6, 0, 0))), some (.inl (nI l)), some (.inl (nI (rtF S 6 (sf S l)))), some (.inl (gbF S 6 (sf S l) 0)), some (.inl (nI (rtF S 6 (se S l)))), some (.inl (gbF S 6 (sf S l) 0 &&& (gbF S 6 (se S l) 0 ^^^ -1))), some (.inl (gbF S 6 (se S l) 0 &&& (gbF S 6 (sf S l) 0 ^^^ -1))), o7, none, o9, none], [.inl 1, .inl (gbF S 6 (se S l) 0 &&& (gbF S 6 (sf S l) 0 ^^^ -1)), .inr (.inr (6, 0, 0))], (tk_so I 6 0 Z, tk_so J 6 0 (tk_u1 (J 6 0) 21 r), R)) _
        refine dn_call rfl rfl rfl rfl rfl (sm_sumOf1 hPZ2 w ?_)
        show tkDn tm_156 (90, [some (.inr (.inr (6, 0, 0))), some (.inl (nI l)), some (.inl (nI (rtF S 6 (sf S l)))), some (.inl (gbF S 6 (sf S l) 0)), some (.inl (nI (rtF S 6 (se S l)))), some (.inl (gbF S 6 (sf S l) 0 &&& (gbF S 6 (se S l) 0 ^^^ -1))), some (.inl (gbF S 6 (se S l) 0 &&& (gbF S 6 (sf S l) 0 ^^^ -1))), o7, none, o9, none], [.inr (.inl (slS S (gbF S 6 (se S l) 0 &&& (gbF S 6 (sf S l) 0 ^^^ -1)) 63 (sG S)))], (tk_so I 6 0 Z, tk_so J 6 0 (tk_u1 (J 6 0) 21 r), R)) _
        refine dn_run 3 (show tkDn tm_156 (94, [some (.inr (.inr (6, 0, 0))), some (.inl (nI l)), some (.inl (nI (rtF S 6 (sf S l)))), some (.inl (gbF S 6 (sf S l) 0)), some (.inl (nI (rtF S 6 (se S l)))), some (.inl (gbF S 6 (sf S l) 0 &&& (gbF S 6 (se S l) 0 ^^^ -1))), some (.inl (gbF S 6 (se S l) 0 &&& (gbF S 6 (sf S l) 0 ^^^ -1))), o7, none, o9, none], [.inl 0, .inl (gbF S 6 (sf S l) 0 &&& (gbF S 6 (se S l) 0 ^^^ -1)), .inr (.inr (6, 0, 0)), .inr (.inl (slS S (gbF S 6 (se S l) 0 &&& (gbF S 6 (sf S l) 0 ^^^ -1)) 63 (sG S)))], (tk_so I 6 0 Z, tk_so J 6 0 (tk_u1 (J 6 0) 21 r), R)) _ from ?_)
        refine dn_call rfl rfl rfl rfl rfl (sm_sumOf0 hPZ2 w ?_)
        show tkDn tm_156 (97, [some (.inr (.inr (6, 0, 0))), some (.inl (nI l)), some (.inl (nI (rtF S 6 (sf S l)))), some (.inl (gbF S 6 (sf S l) 0)), some (.inl (nI (rtF S 6 (se S l)))), some (.inl (gbF S 6 (sf S l) 0 &&& (gbF S 6 (se S l) 0 ^^^ -1))), some (.inl (gbF S 6 (se S l) 0 &&& (gbF S 6 (sf S l) 0 ^^^ -1))), o7, none, o9, none], [.inr (.inl (slS S (gbF S 6 (sf S l) 0 &&& (gbF S 6 (se S l) 0 ^^^ -1)) 0 (sG S))), .inr (.inl (slS S (gbF S 6 (se S l) 0 &&& (gbF S 6 (sf S l) 0 ^^^ -1)) 63 (sG S)))], (tk_so I 6 0 Z, tk_so J 6 0 (tk_u1 (J 6 0) 21 r), R)) _
        refine dn_run 5 (show tkDn tm_156 (104, [some (.inr (.inr (6, 0, 0))), some (.inl (nI l)), some (.inl (nI (rtF S 6 (sf S l)))), some (.inl (gbF S 6 (sf S l) 0)), some (.inl (nI (rtF S 6 (se S l)))), some (.inl (gbF S 6 (sf S l) 0 &&& (gbF S 6 (se S l) 0 ^^^ -1))), some (.inl (gbF S 6 (se S l) 0 &&& (gbF S 6 (sf S l) 0 ^^^ -1))), some (.inr (.inl ((slS S (gbF S 6 (se S l) 0 &&& (gbF S 6 (sf S l) 0 ^^^ -1)) 63 (sG S)) - (slS S (gbF S 6 (sf S l) 0 &&& (gbF S 6 (se S l) 0 ^^^ -1)) 0 (sG S))))), none, o9, none], [.inl 0, .inl (gbF S 6 (se S l) 0 &&& (gbF S 6 (sf S l) 0 ^^^ -1)), .inr (.inr (6, 0, 0))], (tk_so I 6 0 Z, tk_so J 6 0 (tk_u1 (J 6 0) 21 r), R)) _ from ?_)
        refine dn_call rfl rfl rfl rfl rfl (sm_sumOf0 hPZ2 w ?_)
        show tkDn tm_156 (107, [some (.inr (.inr (6, 0, 0))), some (.inl (nI l)), some (.inl (nI (rtF S 6 (sf S l)))), some (.inl (gbF S 6 (sf S l) 0)), some (.inl (nI (rtF S 6 (se S l)))), some (.inl (gbF S 6 (sf S l) 0 &&& (gbF S 6 (se S l) 0 ^^^ -1))), some (.inl (gbF S 6 (se S l) 0 &&& (gbF S 6 (sf S l) 0 ^^^ -1))), some (.inr (.inl ((slS S (gbF S 6 (se S l) 0 &&& (gbF S 6 (sf S l) 0 ^^^ -1)) 63 (sG S)) - (slS S (gbF S 6 (sf S l) 0 &&& (gbF S 6 (se S l) 0 ^^^ -1)) 0 (sG S))))), none, o9, none], [.inr (.inl (slS S (gbF S 6 (se S l) 0 &&& (gbF S 6 (sf S l) 0 ^^^ -1)) 0 (sG S)))], (tk_so I 6 0 Z, tk_so J 6 0 (tk_u1 (J 6 0) 21 r), R)) _
        refine dn_run 3 (show tkDn tm_156 (111, [some (.inr (.inr (6, 0, 0))), some (.inl (nI l)), some (.inl (nI (rtF S 6 (sf S l)))), some (.inl (gbF S 6 (sf S l) 0)), some (.inl (nI (rtF S 6 (se S l)))), some (.inl (gbF S 6 (sf S l) 0 &&& (gbF S 6 (se S l) 0 ^^^ -1))), some (.inl (gbF S 6 (se S l) 0 &&& (gbF S 6 (sf S l) 0 ^^^ -1))), some (.inr (.inl ((slS S (gbF S 6 (se S l) 0 &&& (gbF S 6 (sf S l) 0 ^^^ -1)) 63 (sG S)) - (slS S (gbF S 6 (sf S l) 0 &&& (gbF S 6 (se S l) 0 ^^^ -1)) 0 (sG S))))), none, o9, none], [.inl 1, .inl (gbF S 6 (sf S l) 0 &&& (gbF S 6 (se S l) 0 ^^^ -1)), .inr (.inr (6, 0, 0)), .inr (.inl (slS S (gbF S 6 (se S l) 0 &&& (gbF S 6 (sf S l) 0 ^^^ -1)) 0 (sG S)))], (tk_so I 6 0 Z, tk_so J 6 0 (tk_u1 (J 6 0) 21 r), R)) _ from ?_)
        refine dn_call rfl rfl rfl rfl rfl (sm_sumOf1 hPZ2 w ?_)
        show tkDn tm_156 (114, [some (.inr (.inr (6, 0, 0))), some (.inl (nI l)), some (.inl (nI (rtF S 6 (sf S l)))), some (.inl (gbF S 6 (sf S l) 0)), some (.inl (nI (rtF S 6 (se S l)))), some (.inl (gbF S 6 (sf S l) 0 &&& (gbF S 6 (se S l) 0 ^^^ -1))), some (.inl (gbF S 6 (se S l) 0 &&& (gbF S 6 (sf S l) 0 ^^^ -1))), some (.inr (.inl ((slS S (gbF S 6 (se S l) 0 &&& (gbF S 6 (sf S l) 0 ^^^ -1)) 63 (sG S)) - (slS S (gbF S 6 (sf S l) 0 &&& (gbF S 6 (se S l) 0 ^^^ -1)) 0 (sG S))))), none, o9, none], [.inr (.inl (slS S (gbF S 6 (sf S l) 0 &&& (gbF S 6 (se S l) 0 ^^^ -1)) 63 (sG S))), .inr (.inl (slS S (gbF S 6 (se S l) 0 &&& (gbF S 6 (sf S l) 0 ^^^ -1)) 0 (sG S)))], (tk_so I 6 0 Z, tk_so J 6 0 (tk_u1 (J 6 0) 21 r), R)) _
        refine dn_run 12 (show (vp_in (nI l) 60) ∧ tkDn tm_156 (131, [some (.inr (.inr (6, 0, 0))), some (.inl (nI l)), some (.inl (nI (rtF S 6 (sf S l)))), some (.inl (gbF S 6 (sf S l) 0)), some (.inl (nI (rtF S 6 (se S l)))), some (.inl (gbF S 6 (sf S l) 0 &&& (gbF S 6 (se S l) 0 ^^^ -1))), some (.inl (gbF S 6 (se S l) 0 &&& (gbF S 6 (sf S l) 0 ^^^ -1))), some (.inr (.inl ((slS S (gbF S 6 (se S l) 0 &&& (gbF S 6 (sf S l) 0 ^^^ -1)) 63 (sG S)) - (slS S (gbF S 6 (sf S l) 0 &&& (gbF S 6 (se S l) 0 ^^^ -1)) 0 (sG S))))), none, some (.inr (.inl ((slS S (gbF S 6 (se S l) 0 &&& (gbF S 6 (sf S l) 0 ^^^ -1)) 0 (sG S)) - (slS S (gbF S 6 (sf S l) 0 &&& (gbF S 6 (se S l) 0 ^^^ -1)) 63 (sG S))))), none], [.inr (.inl ((((Z 7 ((nI l).toNatClampNeg)) : Int32).toInt64) - ((slS S (gbF S 6 (se S l) 0 &&& (gbF S 6 (sf S l) 0 ^^^ -1)) 63 (sG S)) - (slS S (gbF S 6 (sf S l) 0 &&& (gbF S 6 (se S l) 0 ^^^ -1)) 0 (sG S))))), .inl (nI (rtF S 6 (se S l))), .inl (nI (rtF S 6 (sf S l))), .inr (.inr (6, 0, 0))], (tk_so I 6 0 Z, tk_so J 6 0 (tk_u1 (J 6 0) 21 r), R)) _ from ⟨vp_in_nI (by omega) (by omega), ?_⟩)
        rw [e7]
        show tkDn tm_156 (131, [some (.inr (.inr (6, 0, 0))), some (.inl (nI l)), some (.inl (nI (rtF S 6 (sf S l)))), some (.inl (gbF S 6 (sf S l) 0)), some (.inl (nI (rtF S 6 (se S l)))), some (.inl (gbF S 6 (sf S l) 0 &&& (gbF S 6 (se S l) 0 ^^^ -1))), some (.inl (gbF S 6 (se S l) 0 &&& (gbF S 6 (sf S l) 0 ^^^ -1))), some (.inr (.inl ((slS S (gbF S 6 (se S l) 0 &&& (gbF S 6 (sf S l) 0 ^^^ -1)) 63 (sG S)) - (slS S (gbF S 6 (sf S l) 0 &&& (gbF S 6 (se S l) 0 ^^^ -1)) 0 (sG S))))), none, some (.inr (.inl ((slS S (gbF S 6 (se S l) 0 &&& (gbF S 6 (sf S l) 0 ^^^ -1)) 0 (sG S)) - (slS S (gbF S 6 (sf S l) 0 &&& (gbF S 6 (se S l) 0 ^^^ -1)) 63 (sG S))))), none], [.inr (.inl ((shi S l).toInt64 - (slS S (gbF S 6 (se S l) 0 &&& (gbF S 6 (sf S l) 0 ^^^ -1)) 63 (sG S) - slS S (gbF S 6 (sf S l) 0 &&& (gbF S 6 (se S l) 0 ^^^ -1)) 0 (sG S)))), .inl (nI (rtF S 6 (se S l))), .inl (nI (rtF S 6 (sf S l))), .inr (.inr (6, 0, 0))], (tk_so I 6 0 Z, tk_so J 6 0 (tk_u1 (J 6 0) 21 r), R)) _
        refine dn_call rfl rfl rfl rfl rfl (sm_step (by omega) (by omega) ?_)
        rw [tk_so_so, tk_so_same, tk_u1_u1, tk_u1_same]
        show tkDn tm_156 (134, [some (.inr (.inr (6, 0, 0))), some (.inl (nI l)), some (.inl (nI (rtF S 6 (sf S l)))), some (.inl (gbF S 6 (sf S l) 0)), some (.inl (nI (rtF S 6 (se S l)))), some (.inl (gbF S 6 (sf S l) 0 &&& (gbF S 6 (se S l) 0 ^^^ -1))), some (.inl (gbF S 6 (se S l) 0 &&& (gbF S 6 (sf S l) 0 ^^^ -1))), some (.inr (.inl ((slS S (gbF S 6 (se S l) 0 &&& (gbF S 6 (sf S l) 0 ^^^ -1)) 63 (sG S)) - (slS S (gbF S 6 (sf S l) 0 &&& (gbF S 6 (se S l) 0 ^^^ -1)) 0 (sG S))))), none, some (.inr (.inl ((slS S (gbF S 6 (se S l) 0 &&& (gbF S 6 (sf S l) 0 ^^^ -1)) 0 (sG S)) - (slS S (gbF S 6 (sf S l) 0 &&& (gbF S 6 (se S l) 0 ^^^ -1)) 63 (sG S))))), none], [], (tk_so I 6 0 Z, tk_so J 6 0 (tk_u1 (J 6 0) 21 (low1 r (16 * rtF S 6 (sf S l) + rtF S 6 (se S l)) ((shi S l).toInt64 - (slS S (gbF S 6 (se S l) 0 &&& (gbF S 6 (sf S l) 0 ^^^ -1)) 63 (sG S) - slS S (gbF S 6 (sf S l) 0 &&& (gbF S 6 (se S l) 0 ^^^ -1)) 0 (sG S))))), R)) _
        refine dn_run 10 (show (vp_in (nI l) 60) ∧ tkDn tm_156 (148, [some (.inr (.inr (6, 0, 0))), some (.inl (nI l)), some (.inl (nI (rtF S 6 (sf S l)))), some (.inl (gbF S 6 (sf S l) 0)), some (.inl (nI (rtF S 6 (se S l)))), some (.inl (gbF S 6 (sf S l) 0 &&& (gbF S 6 (se S l) 0 ^^^ -1))), some (.inl (gbF S 6 (se S l) 0 &&& (gbF S 6 (sf S l) 0 ^^^ -1))), some (.inr (.inl ((slS S (gbF S 6 (se S l) 0 &&& (gbF S 6 (sf S l) 0 ^^^ -1)) 63 (sG S)) - (slS S (gbF S 6 (sf S l) 0 &&& (gbF S 6 (se S l) 0 ^^^ -1)) 0 (sG S))))), none, some (.inr (.inl ((slS S (gbF S 6 (se S l) 0 &&& (gbF S 6 (sf S l) 0 ^^^ -1)) 0 (sG S)) - (slS S (gbF S 6 (sf S l) 0 &&& (gbF S 6 (se S l) 0 ^^^ -1)) 63 (sG S))))), none], [.inr (.inl (((slS S (gbF S 6 (se S l) 0 &&& (gbF S 6 (sf S l) 0 ^^^ -1)) 0 (sG S)) - (slS S (gbF S 6 (sf S l) 0 &&& (gbF S 6 (se S l) 0 ^^^ -1)) 63 (sG S))) - (((Z 6 ((nI l).toNatClampNeg)) : Int32).toInt64))), .inl (nI (rtF S 6 (sf S l))), .inl (nI (rtF S 6 (se S l))), .inr (.inr (6, 0, 0))], (tk_so I 6 0 Z, tk_so J 6 0 (tk_u1 (J 6 0) 21 (low1 r (16 * rtF S 6 (sf S l) + rtF S 6 (se S l)) ((shi S l).toInt64 - (slS S (gbF S 6 (se S l) 0 &&& (gbF S 6 (sf S l) 0 ^^^ -1)) 63 (sG S) - slS S (gbF S 6 (sf S l) 0 &&& (gbF S 6 (se S l) 0 ^^^ -1)) 0 (sG S))))), R)) _ from ⟨vp_in_nI (by omega) (by omega), ?_⟩)
        rw [e6]
        show tkDn tm_156 (148, [some (.inr (.inr (6, 0, 0))), some (.inl (nI l)), some (.inl (nI (rtF S 6 (sf S l)))), some (.inl (gbF S 6 (sf S l) 0)), some (.inl (nI (rtF S 6 (se S l)))), some (.inl (gbF S 6 (sf S l) 0 &&& (gbF S 6 (se S l) 0 ^^^ -1))), some (.inl (gbF S 6 (se S l) 0 &&& (gbF S 6 (sf S l) 0 ^^^ -1))), some (.inr (.inl ((slS S (gbF S 6 (se S l) 0 &&& (gbF S 6 (sf S l) 0 ^^^ -1)) 63 (sG S)) - (slS S (gbF S 6 (sf S l) 0 &&& (gbF S 6 (se S l) 0 ^^^ -1)) 0 (sG S))))), none, some (.inr (.inl ((slS S (gbF S 6 (se S l) 0 &&& (gbF S 6 (sf S l) 0 ^^^ -1)) 0 (sG S)) - (slS S (gbF S 6 (sf S l) 0 &&& (gbF S 6 (se S l) 0 ^^^ -1)) 63 (sG S))))), none], [.inr (.inl ((slS S (gbF S 6 (se S l) 0 &&& (gbF S 6 (sf S l) 0 ^^^ -1)) 0 (sG S) - slS S (gbF S 6 (sf S l) 0 &&& (gbF S 6 (se S l) 0 ^^^ -1)) 63 (sG S)) - (slo S l).toInt64)), .inl (nI (rtF S 6 (sf S l))), .inl (nI (rtF S 6 (se S l))), .inr (.inr (6, 0, 0))], (tk_so I 6 0 Z, tk_so J 6 0 (tk_u1 (J 6 0) 21 (low1 r (16 * rtF S 6 (sf S l) + rtF S 6 (se S l)) ((shi S l).toInt64 - (slS S (gbF S 6 (se S l) 0 &&& (gbF S 6 (sf S l) 0 ^^^ -1)) 63 (sG S) - slS S (gbF S 6 (sf S l) 0 &&& (gbF S 6 (se S l) 0 ^^^ -1)) 0 (sG S))))), R)) _
        refine dn_call rfl rfl rfl rfl rfl (sm_step (by omega) (by omega) ?_)
        rw [tk_so_so, tk_so_same, tk_u1_u1, tk_u1_same]
        show tkDn tm_156 (151, [some (.inr (.inr (6, 0, 0))), some (.inl (nI l)), some (.inl (nI (rtF S 6 (sf S l)))), some (.inl (gbF S 6 (sf S l) 0)), some (.inl (nI (rtF S 6 (se S l)))), some (.inl (gbF S 6 (sf S l) 0 &&& (gbF S 6 (se S l) 0 ^^^ -1))), some (.inl (gbF S 6 (se S l) 0 &&& (gbF S 6 (sf S l) 0 ^^^ -1))), some (.inr (.inl ((slS S (gbF S 6 (se S l) 0 &&& (gbF S 6 (sf S l) 0 ^^^ -1)) 63 (sG S)) - (slS S (gbF S 6 (sf S l) 0 &&& (gbF S 6 (se S l) 0 ^^^ -1)) 0 (sG S))))), none, some (.inr (.inl ((slS S (gbF S 6 (se S l) 0 &&& (gbF S 6 (sf S l) 0 ^^^ -1)) 0 (sG S)) - (slS S (gbF S 6 (sf S l) 0 &&& (gbF S 6 (se S l) 0 ^^^ -1)) 63 (sG S))))), none], [], (tk_so I 6 0 Z, tk_so J 6 0 (tk_u1 (J 6 0) 21 (low1 (low1 r (16 * rtF S 6 (sf S l) + rtF S 6 (se S l)) ((shi S l).toInt64 - (slS S (gbF S 6 (se S l) 0 &&& (gbF S 6 (sf S l) 0 ^^^ -1)) 63 (sG S) - slS S (gbF S 6 (sf S l) 0 &&& (gbF S 6 (se S l) 0 ^^^ -1)) 0 (sG S)))) (16 * rtF S 6 (se S l) + rtF S 6 (sf S l)) ((slS S (gbF S 6 (se S l) 0 &&& (gbF S 6 (sf S l) 0 ^^^ -1)) 0 (sG S) - slS S (gbF S 6 (sf S l) 0 &&& (gbF S 6 (se S l) 0 ^^^ -1)) 63 (sG S)) - (slo S l).toInt64))), R)) _
        refine dn_run 2 (show tkDn tm_156 (10, [some (.inr (.inr (6, 0, 0))), some (.inl ((nI l) + 1)), some (.inl (nI (rtF S 6 (sf S l)))), some (.inl (gbF S 6 (sf S l) 0)), some (.inl (nI (rtF S 6 (se S l)))), some (.inl (gbF S 6 (sf S l) 0 &&& (gbF S 6 (se S l) 0 ^^^ -1))), some (.inl (gbF S 6 (se S l) 0 &&& (gbF S 6 (sf S l) 0 ^^^ -1))), some (.inr (.inl ((slS S (gbF S 6 (se S l) 0 &&& (gbF S 6 (sf S l) 0 ^^^ -1)) 63 (sG S)) - (slS S (gbF S 6 (sf S l) 0 &&& (gbF S 6 (se S l) 0 ^^^ -1)) 0 (sG S))))), none, some (.inr (.inl ((slS S (gbF S 6 (se S l) 0 &&& (gbF S 6 (sf S l) 0 ^^^ -1)) 0 (sG S)) - (slS S (gbF S 6 (sf S l) 0 &&& (gbF S 6 (se S l) 0 ^^^ -1)) 63 (sG S))))), none], [], (tk_so I 6 0 Z, tk_so J 6 0 (tk_u1 (J 6 0) 21 (low1 (low1 r (16 * rtF S 6 (sf S l) + rtF S 6 (se S l)) ((shi S l).toInt64 - (slS S (gbF S 6 (se S l) 0 &&& (gbF S 6 (sf S l) 0 ^^^ -1)) 63 (sG S) - slS S (gbF S 6 (sf S l) 0 &&& (gbF S 6 (se S l) 0 ^^^ -1)) 0 (sG S)))) (16 * rtF S 6 (se S l) + rtF S 6 (sf S l)) ((slS S (gbF S 6 (se S l) 0 &&& (gbF S 6 (sf S l) 0 ^^^ -1)) 0 (sG S) - slS S (gbF S 6 (sf S l) 0 &&& (gbF S 6 (se S l) 0 ^^^ -1)) 63 (sG S)) - (slo S l).toInt64))), R)) _ from ?_)
        rw [nI_1]
        refine ih (l + 1) _ Z _ _ _ _ _ _ _ (by omega) hZ1 ?_
        unfold mstM
        rw [if_pos c2]
        exact (hr.low (by omega) hra hrb).low (by omega) hrb hra
set_option maxRecDepth 8000 in
theorem sm_strong {I : tkI} {J : tkJ} {R : Nat → Nat} {Q : tkQ} {S : tkS} (hP : NetP (I 6 0) S) (w : WF S) (hQ : ∀ X r, mRoot (I 6 0) X → Q (some (.inl (if (mstr S).1 = true then 1 else 0))) (tk_so I 6 0 X, tk_so J 6 0 (tk_u1 (J 6 0) 21 r), R)) : tkDn tm_156 (0, [some (.inr (.inr (6, 0, 0))), none, none, none, none, none, none, none, none, none, none], [], (I, J, R)) Q := by
  have hM16 := w.1
  have hM := hP.m
  refine dn_run 3 (show tkDn tm_156 (5, [some (.inr (.inr (6, 0, 0))), none, none, none, none, none, none, none, none, none, none], [.inl (I 6 0 0 0), .inr (.inr (6, 0, 0))], (I, J, R)) _ from ?_)
  rw [hM]
  show tkDn tm_156 (5, [some (.inr (.inr (6, 0, 0))), none, none, none, none, none, none, none, none, none, none], [.inl (nI (sM S)), .inr (.inr (6, 0, 0))], (I, J, R)) _
  refine dn_call rfl rfl rfl rfl rfl (sm_clearWays hM16 (fun r hr => ?_))
  show tkDn tm_156 (8, [some (.inr (.inr (6, 0, 0))), none, none, none, none, none, none, none, none, none, none], [], (I, tk_so J 6 0 (tk_u1 (J 6 0) 21 r), R)) _
  refine dn_run 2 (show tkDn tm_156 (10, [some (.inr (.inr (6, 0, 0))), some (.inl 0), none, none, none, none, none, none, none, none, none], [], (I, tk_so J 6 0 (tk_u1 (J 6 0) 21 r), R)) _ from ?_)
  have key := sm_strong_loop (J := J) hP w hQ (sL S) 0 r (I 6 0) none none none none none none none (Nat.zero_add _) (fun _ _ _ => rfl) hr
  rw [tk_so_id] at key
  exact key
end
section
/-! waits, in numbers: rows of delays stand at 6 * a + g -/
def WRow (r : Nat → Int64) (v : tkD) : Prop := ∀ a g, a < 16 → g < 6 → r (6 * a + g) = v a g
def dpF (r : Nat → Int64) : Nat → Nat → Bool
  | 0, _ => false
  | n + 1, j => if r j < -1000000000000 then true else dpF r n (j + 1)
def smF (r q : Nat → Int64) : Nat → Nat → Bool
  | 0, _ => true
  | n + 1, j => if r j = q j then smF r q n (j + 1) else false
def bdM (S : tkS) : Nat → tkD
  | 0 => fun _ _ => 4611686018427387904
  | g + 1 => upM (bdM S g) (se S (sgl S g)) g (-shi S (sgl S g)).toInt64
def lwF (e v : tkD) (a g : Nat) : Nat → Int64
  | 0 => 4611686018427387904
  | b + 1 => if e a b ≠ 4611686018427387904 ∧ v b g ≠ 4611686018427387904 then (if e a b + v b g < lwF e v a g b then e a b + v b g else lwF e v a g b) else lwF e v a g b
theorem ix6 {a g : Nat} : nI a * 6 + nI g = nI (6 * a + g) := by
  rw [show (6 : Int32) = nI 6 from rfl, pk_mul, nI_add, Nat.mul_comm]
theorem ix6' {a g : Nat} : 6 * nI a + nI g = nI (6 * a + g) := by
  rw [show (6 : Int32) = nI 6 from rfl, pk_mul, nI_add]
theorem WRow.at {r : Nat → Int64} {v : tkD} (h : WRow r v) {a g : Nat} (ha : a < 16) (hg : g < 6) : r (nI (6 * a + g)).toNatClampNeg = v a g := by
  rw [nI_clamp (by omega)]
  exact h a g ha hg
theorem WRow.put {r : Nat → Int64} {v : tkD} (h : WRow r v) {a g : Nat} (hg : g < 6) {x : Int64} : WRow (tk_u1 r (6 * a + g) x) (upM v a g x) := by
  intro i j hi hj
  unfold upM
  by_cases q : i = a ∧ j = g
  · obtain ⟨rfl, rfl⟩ := q
    rw [tk_u1_same, if_pos ⟨rfl, rfl⟩]
  · rw [tk_u1_ne (by omega), if_neg q]
    exact h i j hi hj
def caM (e v : tkD) (n G a0 g0 : Nat) : tkD := fun a g => if (a < n ∧ g < G) ∧ (a < a0 ∨ (a = a0 ∧ g < g0)) then lwF e v a g n else v a g
theorem caM_s {e v : tkD} {n G a0 g0 : Nat} (ha : a0 < n) (hg : g0 < G) : upM (caM e v n G a0 g0) a0 g0 (lwF e v a0 g0 n) = caM e v n G a0 (g0 + 1) := by
  funext a g
  unfold upM caM
  by_cases q : a = a0 ∧ g = g0
  · obtain ⟨rfl, rfl⟩ := q
    rw [if_pos ⟨rfl, rfl⟩, if_pos ⟨⟨ha, hg⟩, Or.inr ⟨rfl, by omega⟩⟩]
  · rw [if_neg q]
    by_cases z : (a < n ∧ g < G) ∧ (a < a0 ∨ (a = a0 ∧ g < g0))
    · rw [if_pos z, if_pos ⟨z.1, by omega⟩]
    · rw [if_neg z, if_neg (fun y => z ⟨y.1, by omega⟩)]
theorem caM_n {e v : tkD} {n G a0 : Nat} : caM e v n G a0 G = caM e v n G (a0 + 1) 0 := by
  funext a g
  unfold caM
  by_cases z : (a < n ∧ g < G) ∧ (a < a0 ∨ (a = a0 ∧ g < G))
  · rw [if_pos z, if_pos ⟨z.1, by omega⟩]
  · rw [if_neg z, if_neg (fun y => z ⟨y.1, by omega⟩)]
theorem caM_0 {e v : tkD} {n G : Nat} : caM e v n G 0 0 = v := by
  funext a g
  unfold caM
  rw [if_neg (fun y => by omega)]
def tsI (S : tkS) (v : tkD) (g : Nat) (e : tkD) : Nat → tkD
  | 0 => e
  | a + 1 => if a ≠ se S (sgl S g) ∧ v a g ≠ 4611686018427387904 ∧ (-slo S (sgl S g)).toInt64 ≤ v a g then lowM (tsI S v g e a) a (sf S (sgl S g)) (v a g) else tsI S v g e a
def tsO (S : tkS) (v e : tkD) (n : Nat) : Nat → tkD
  | 0 => e
  | g + 1 => tsI S v g (tsO S v e n g) n
def ceI (S : tkS) (q : tkD) (g : Nat) (e : tkD) : Nat → tkD
  | 0 => e
  | b + 1 => if q (se S (sgl S g)) b < 0 then lowM (ceI S q g e b) (sf S (sgl S g)) b ((slo S (sgl S g)).toInt64 + q (se S (sgl S g)) b) else ceI S q g e b
def ceO (S : tkS) (q e : tkD) (n : Nat) : Nat → tkD
  | 0 => e
  | g + 1 => ceI S q g (ceO S q e n g) n
def cgI (S : tkS) (u : tkD) (g : Nat) (v : tkD) : Nat → tkD
  | 0 => v
  | h + 1 => if h ≠ g ∧ u (se S (sgl S g)) h < 0 then upM (cgI S u g v h) (sf S (sgl S g)) h (if (slo S (sgl S g)).toInt64 + u (se S (sgl S g)) h < cgI S u g v h (sf S (sgl S g)) h then (slo S (sgl S g)).toInt64 + u (se S (sgl S g)) h else cgI S u g v h (sf S (sgl S g)) h) else cgI S u g v h
def cgO (S : tkS) (u v : tkD) (n : Nat) : Nat → tkD
  | 0 => v
  | g + 1 => cgI S u g (cgO S u v n g) n
def hrI (S : tkS) (v : tkD) (g : Nat) (e : tkD) : Nat → tkD
  | 0 => e
  | a + 1 => lowM (hrI S v g e a) a (sf S (sgl S g)) (v a g)
def hrO (S : tkS) (v e : tkD) (n : Nat) : Nat → tkD
  | 0 => e
  | g + 1 => hrI S v g (hrO S v e n g) n
theorem RowP.cp {r q : Nat → Int64} {d : tkD} (h : RowP 16 r d) (hq : ∀ j, j < 256 → q j = r j) : RowP 16 q d := fun a b ha hb => by rw [hq _ (by omega)]; exact h a b ha hb
theorem WRow.cp {r q : Nat → Int64} {d : tkD} (h : WRow r d) (hq : ∀ j, j < 96 → q j = r j) : WRow q d := fun a b ha hb => by rw [hq _ (by omega)]; exact h a b ha hb
end
section
/-! Waits: its small methods -/
set_option maxRecDepth 8000 in
theorem sw_cell {I : tkI} {J : tkJ} {R : Nat → Nat} {Q : tkQ} {a g : Nat} (hQ : Q (some (.inl (nI (6 * a + g)))) (I, J, R)) : tkDn tm_85 (0, [some (.inl (nI a)), some (.inl (nI g))], [], (I, J, R)) Q := by
  refine dn_run 5 (show tkDn tm_85 (6, [some (.inl (nI a)), some (.inl (nI g))], [.inl (((nI a) * 6) + (nI g))], (I, J, R)) _ from ?_)
  rw [ix6]
  refine dn_ret0 rfl rfl rfl rfl ?_
  exact hQ
set_option maxRecDepth 8000 in
theorem sw_edgeOf {I : tkI} {J : tkJ} {R : Nat → Nat} {Q : tkQ} {d : tkD} {a c : Nat} (hr : RowP 16 (J 4 0 1) d) (ha : a < 16) (hc : c < 16) (hQ : Q (some (.inr (.inl (d a c)))) (I, J, R)) : tkDn tm_83 (0, [some (.inr (.inr (4, 0, 0))), some (.inl (nI a)), some (.inl (nI c))], [], (I, J, R)) Q := by
  refine dn_run 4 (show tkDn tm_83 (6, [some (.inr (.inr (4, 0, 0))), some (.inl (nI a)), some (.inl (nI c))], [.inl (nI c), .inl (nI a), .inr (.inr (4, 0, 1))], (I, J, R)) _ from ?_)
  refine dn_call rfl rfl rfl rfl rfl (ss_cell ?_)
  show tkDn tm_83 (9, [some (.inr (.inr (4, 0, 0))), some (.inl (nI a)), some (.inl (nI c))], [.inl (nI (16 * a + c)), .inr (.inr (4, 0, 1))], (I, J, R)) _
  refine dn_run 1 (show (vp_in (nI (16 * a + c)) 256) ∧ tkDn tm_83 (10, [some (.inr (.inr (4, 0, 0))), some (.inl (nI a)), some (.inl (nI c))], [.inr (.inl (J 4 0 1 ((nI (16 * a + c)).toNatClampNeg)))], (I, J, R)) _ from ⟨vp_in_nI (by omega) (by omega), ?_⟩)
  rw [hr.at (by omega) ha hc]
  refine dn_ret0 rfl rfl rfl rfl ?_
  exact hQ
set_option maxRecDepth 8000 in
theorem sw_waitOf {I : tkI} {J : tkJ} {R : Nat → Nat} {Q : tkQ} {v : tkD} {a g : Nat} (hr : WRow (J 4 0 4) v) (ha : a < 16) (hg : g < 6) (hQ : Q (some (.inr (.inl (v a g)))) (I, J, R)) : tkDn tm_84 (0, [some (.inr (.inr (4, 0, 0))), some (.inl (nI a)), some (.inl (nI g))], [], (I, J, R)) Q := by
  refine dn_run 4 (show tkDn tm_84 (6, [some (.inr (.inr (4, 0, 0))), some (.inl (nI a)), some (.inl (nI g))], [.inl (nI g), .inl (nI a), .inr (.inr (4, 0, 4))], (I, J, R)) _ from ?_)
  refine dn_call rfl rfl rfl rfl rfl (sw_cell ?_)
  show tkDn tm_84 (9, [some (.inr (.inr (4, 0, 0))), some (.inl (nI a)), some (.inl (nI g))], [.inl (nI (6 * a + g)), .inr (.inr (4, 0, 4))], (I, J, R)) _
  refine dn_run 1 (show (vp_in (nI (6 * a + g)) 96) ∧ tkDn tm_84 (10, [some (.inr (.inr (4, 0, 0))), some (.inl (nI a)), some (.inl (nI g))], [.inr (.inl (J 4 0 4 ((nI (6 * a + g)).toNatClampNeg)))], (I, J, R)) _ from ⟨vp_in_nI (by omega) (by omega), ?_⟩)
  rw [hr.at ha hg]
  refine dn_ret0 rfl rfl rfl rfl ?_
  exact hQ
set_option maxRecDepth 8000 in
theorem sw_copy_1_2 {I : tkI} {J : tkJ} {R : Nat → Nat} {Q : tkQ} (hQ : ∀ r, (∀ j, j < 256 → r j = J 4 0 1 j) → Q none (I, tk_so J 4 0 (tk_u1 (J 4 0) 2 r), R)) : tkDn tm_97 (0, [some (.inr (.inr (4, 0, 1))), some (.inr (.inr (4, 0, 2)))], [], (I, J, R)) Q := by
  refine dn_run 8 (show tkDn tm_97 (8, [some (.inr (.inr (4, 0, 1))), some (.inr (.inr (4, 0, 2)))], [.inl 256, .inl 256, .inl 0, .inr (.inr (4, 0, 2)), .inl 0, .inr (.inr (4, 0, 1))], (I, J, R)) _ from ?_)
  refine dn_run 1 (show tkDn tm_97 (11, [some (.inr (.inr (4, 0, 1))), some (.inr (.inr (4, 0, 2)))], [.inl (if (256 : Int32) < 256 then (256 : Int32) else 256), .inl 0, .inr (.inr (4, 0, 2)), .inl 0, .inr (.inr (4, 0, 1))], (I, J, R)) _ from ?_)
  rw [show (if (256 : Int32) < 256 then (256 : Int32) else 256) = 256 by decide]
  refine dn_run 1 (show (¬ (0 : Int32) < 0 ∧ ¬ (0 : Int32) < 0 ∧ ¬ (256 : Int32) < 0 ∧ (0 : Int32).toNatClampNeg + (256 : Int32).toNatClampNeg ≤ 256 ∧ (0 : Int32).toNatClampNeg + (256 : Int32).toNatClampNeg ≤ 256) ∧ tkDn tm_97 (14, [some (.inr (.inr (4, 0, 1))), some (.inr (.inr (4, 0, 2)))], [], (I, tk_so J 4 0 (tk_u1 (J 4 0) 2 (va_cpy (J 4 0 1) (J 4 0 2) (0 : Int32).toNatClampNeg (0 : Int32).toNatClampNeg (256 : Int32).toNatClampNeg)), R)) _ from ⟨by decide, ?_⟩)
  refine dn_ret0 rfl rfl rfl rfl ?_
  refine hQ _ (fun j hj => ?_)
  rw [show (0 : Int32).toNatClampNeg = 0 by decide, show (256 : Int32).toNatClampNeg = 256 by decide, pk_cpy_in (Nat.zero_le _) (by omega)]
  rw [Nat.zero_add, Nat.sub_zero]
set_option maxRecDepth 8000 in
theorem sw_copy_1_3 {I : tkI} {J : tkJ} {R : Nat → Nat} {Q : tkQ} (hQ : ∀ r, (∀ j, j < 256 → r j = J 4 0 1 j) → Q none (I, tk_so J 4 0 (tk_u1 (J 4 0) 3 r), R)) : tkDn tm_97 (0, [some (.inr (.inr (4, 0, 1))), some (.inr (.inr (4, 0, 3)))], [], (I, J, R)) Q := by
  refine dn_run 8 (show tkDn tm_97 (8, [some (.inr (.inr (4, 0, 1))), some (.inr (.inr (4, 0, 3)))], [.inl 256, .inl 256, .inl 0, .inr (.inr (4, 0, 3)), .inl 0, .inr (.inr (4, 0, 1))], (I, J, R)) _ from ?_)
  refine dn_run 1 (show tkDn tm_97 (11, [some (.inr (.inr (4, 0, 1))), some (.inr (.inr (4, 0, 3)))], [.inl (if (256 : Int32) < 256 then (256 : Int32) else 256), .inl 0, .inr (.inr (4, 0, 3)), .inl 0, .inr (.inr (4, 0, 1))], (I, J, R)) _ from ?_)
  rw [show (if (256 : Int32) < 256 then (256 : Int32) else 256) = 256 by decide]
  refine dn_run 1 (show (¬ (0 : Int32) < 0 ∧ ¬ (0 : Int32) < 0 ∧ ¬ (256 : Int32) < 0 ∧ (0 : Int32).toNatClampNeg + (256 : Int32).toNatClampNeg ≤ 256 ∧ (0 : Int32).toNatClampNeg + (256 : Int32).toNatClampNeg ≤ 256) ∧ tkDn tm_97 (14, [some (.inr (.inr (4, 0, 1))), some (.inr (.inr (4, 0, 3)))], [], (I, tk_so J 4 0 (tk_u1 (J 4 0) 3 (va_cpy (J 4 0 1) (J 4 0 3) (0 : Int32).toNatClampNeg (0 : Int32).toNatClampNeg (256 : Int32).toNatClampNeg)), R)) _ from ⟨by decide, ?_⟩)
  refine dn_ret0 rfl rfl rfl rfl ?_
  refine hQ _ (fun j hj => ?_)
  rw [show (0 : Int32).toNatClampNeg = 0 by decide, show (256 : Int32).toNatClampNeg = 256 by decide, pk_cpy_in (Nat.zero_le _) (by omega)]
  rw [Nat.zero_add, Nat.sub_zero]
set_option maxRecDepth 8000 in
theorem sw_copy_4_5 {I : tkI} {J : tkJ} {R : Nat → Nat} {Q : tkQ} (hQ : ∀ r, (∀ j, j < 96 → r j = J 4 0 4 j) → Q none (I, tk_so J 4 0 (tk_u1 (J 4 0) 5 r), R)) : tkDn tm_97 (0, [some (.inr (.inr (4, 0, 4))), some (.inr (.inr (4, 0, 5)))], [], (I, J, R)) Q := by
  refine dn_run 8 (show tkDn tm_97 (8, [some (.inr (.inr (4, 0, 4))), some (.inr (.inr (4, 0, 5)))], [.inl 96, .inl 96, .inl 0, .inr (.inr (4, 0, 5)), .inl 0, .inr (.inr (4, 0, 4))], (I, J, R)) _ from ?_)
  refine dn_run 1 (show tkDn tm_97 (11, [some (.inr (.inr (4, 0, 4))), some (.inr (.inr (4, 0, 5)))], [.inl (if (96 : Int32) < 96 then (96 : Int32) else 96), .inl 0, .inr (.inr (4, 0, 5)), .inl 0, .inr (.inr (4, 0, 4))], (I, J, R)) _ from ?_)
  rw [show (if (96 : Int32) < 96 then (96 : Int32) else 96) = 96 by decide]
  refine dn_run 1 (show (¬ (0 : Int32) < 0 ∧ ¬ (0 : Int32) < 0 ∧ ¬ (96 : Int32) < 0 ∧ (0 : Int32).toNatClampNeg + (96 : Int32).toNatClampNeg ≤ 96 ∧ (0 : Int32).toNatClampNeg + (96 : Int32).toNatClampNeg ≤ 96) ∧ tkDn tm_97 (14, [some (.inr (.inr (4, 0, 4))), some (.inr (.inr (4, 0, 5)))], [], (I, tk_so J 4 0 (tk_u1 (J 4 0) 5 (va_cpy (J 4 0 4) (J 4 0 5) (0 : Int32).toNatClampNeg (0 : Int32).toNatClampNeg (96 : Int32).toNatClampNeg)), R)) _ from ⟨by decide, ?_⟩)
  refine dn_ret0 rfl rfl rfl rfl ?_
  refine hQ _ (fun j hj => ?_)
  rw [show (0 : Int32).toNatClampNeg = 0 by decide, show (96 : Int32).toNatClampNeg = 96 by decide, pk_cpy_in (Nat.zero_le _) (by omega)]
  rw [Nat.zero_add, Nat.sub_zero]
set_option maxRecDepth 8000 in
theorem sw_copy_4_6 {I : tkI} {J : tkJ} {R : Nat → Nat} {Q : tkQ} (hQ : ∀ r, (∀ j, j < 96 → r j = J 4 0 4 j) → Q none (I, tk_so J 4 0 (tk_u1 (J 4 0) 6 r), R)) : tkDn tm_97 (0, [some (.inr (.inr (4, 0, 4))), some (.inr (.inr (4, 0, 6)))], [], (I, J, R)) Q := by
  refine dn_run 8 (show tkDn tm_97 (8, [some (.inr (.inr (4, 0, 4))), some (.inr (.inr (4, 0, 6)))], [.inl 96, .inl 96, .inl 0, .inr (.inr (4, 0, 6)), .inl 0, .inr (.inr (4, 0, 4))], (I, J, R)) _ from ?_)
  refine dn_run 1 (show tkDn tm_97 (11, [some (.inr (.inr (4, 0, 4))), some (.inr (.inr (4, 0, 6)))], [.inl (if (96 : Int32) < 96 then (96 : Int32) else 96), .inl 0, .inr (.inr (4, 0, 6)), .inl 0, .inr (.inr (4, 0, 4))], (I, J, R)) _ from ?_)
  rw [show (if (96 : Int32) < 96 then (96 : Int32) else 96) = 96 by decide]
  refine dn_run 1 (show (¬ (0 : Int32) < 0 ∧ ¬ (0 : Int32) < 0 ∧ ¬ (96 : Int32) < 0 ∧ (0 : Int32).toNatClampNeg + (96 : Int32).toNatClampNeg ≤ 96 ∧ (0 : Int32).toNatClampNeg + (96 : Int32).toNatClampNeg ≤ 96) ∧ tkDn tm_97 (14, [some (.inr (.inr (4, 0, 4))), some (.inr (.inr (4, 0, 6)))], [], (I, tk_so J 4 0 (tk_u1 (J 4 0) 6 (va_cpy (J 4 0 4) (J 4 0 6) (0 : Int32).toNatClampNeg (0 : Int32).toNatClampNeg (96 : Int32).toNatClampNeg)), R)) _ from ⟨by decide, ?_⟩)
  refine dn_ret0 rfl rfl rfl rfl ?_
  refine hQ _ (fun j hj => ?_)
  rw [show (0 : Int32).toNatClampNeg = 0 by decide, show (96 : Int32).toNatClampNeg = 96 by decide, pk_cpy_in (Nat.zero_le _) (by omega)]
  rw [Nat.zero_add, Nat.sub_zero]
set_option maxRecDepth 8000 in
theorem sw_deep_1_loop {I : tkI} {J : tkJ} {R : Nat → Nat} {Q : tkQ} : ∀ n j, j + n = 256 → Q (some (.inl (if dpF (J 4 0 1) n j = true then 1 else 0))) (I, J, R) → tkDn tm_95 (2, [some (.inr (.inr (4, 0, 1))), some (.inl (nI j))], [], (I, J, R)) Q := by
  intro n
  induction n with
  | zero =>
    intro j hj hQ
    show tkDn tm_95 (2, [some (.inr (.inr (4, 0, 1))), some (.inl (nI j))], [], (I, J, R)) _
    refine dn_run 3 (show tkDn tm_95 (5, [some (.inr (.inr (4, 0, 1))), some (.inl (nI j))], [.inl 256, .inl (nI j)], (I, J, R)) _ from ?_)
    refine dn_if rfl rfl rfl (fun (c : 256 ≤ (nI j)) => ?_) (fun (c : ¬ 256 ≤ (nI j)) => ?_)
    · show tkDn tm_95 (26, [some (.inr (.inr (4, 0, 1))), some (.inl (nI j))], [], (I, J, R)) _
      refine dn_run 1 (show tkDn tm_95 (27, [some (.inr (.inr (4, 0, 1))), some (.inl (nI j))], [.inl 0], (I, J, R)) _ from ?_)
      refine dn_retb rfl rfl rfl rfl (by decide) ?_
      exact hQ
    · exact absurd (nI_le (a := 256) (by omega) (by omega)) c
  | succ n ih =>
    intro j hj hQ
    show tkDn tm_95 (2, [some (.inr (.inr (4, 0, 1))), some (.inl (nI j))], [], (I, J, R)) _
    refine dn_run 3 (show tkDn tm_95 (5, [some (.inr (.inr (4, 0, 1))), some (.inl (nI j))], [.inl 256, .inl (nI j)], (I, J, R)) _ from ?_)
    refine dn_if rfl rfl rfl (fun (c : 256 ≤ (nI j)) => ?_) (fun (c : ¬ 256 ≤ (nI j)) => ?_)
    · exact absurd c (nI_ge (b := 256) (by omega) (by omega))
    · show tkDn tm_95 (8, [some (.inr (.inr (4, 0, 1))), some (.inl (nI j))], [], (I, J, R)) _
      refine dn_run 5 (show (vp_in (nI j) 256) ∧ tkDn tm_95 (15, [some (.inr (.inr (4, 0, 1))), some (.inl (nI j))], [.inl (lg_cmp (J 4 0 1 ((nI j).toNatClampNeg)) (-1000000000000))], (I, J, R)) _ from ⟨vp_in_nI (by omega) (by omega), ?_⟩)
      rw [nI_clamp (show j < 2 ^ 31 by omega)]
      refine dn_if rfl rfl rfl (fun (c2 : 0 ≤ (lg_cmp (J 4 0 1 j) (-1000000000000))) => ?_) (fun (c2 : ¬ 0 ≤ (lg_cmp (J 4 0 1 j) (-1000000000000))) => ?_)
      · show tkDn tm_95 (20, [some (.inr (.inr (4, 0, 1))), some (.inl (nI j))], [], (I, J, R)) _
        refine dn_run 2 (show tkDn tm_95 (2, [some (.inr (.inr (4, 0, 1))), some (.inl ((nI j) + 1))], [], (I, J, R)) _ from ?_)
        rw [nI_1]
        rw [show dpF (J 4 0 1) (n + 1) j = dpF (J 4 0 1) n (j + 1) from if_neg (Int64.not_lt.mpr ((lg_cmp_ge _ _).mp c2))] at hQ
        exact ih (j + 1) (by omega) hQ
      · show tkDn tm_95 (18, [some (.inr (.inr (4, 0, 1))), some (.inl (nI j))], [], (I, J, R)) _
        refine dn_run 1 (show tkDn tm_95 (19, [some (.inr (.inr (4, 0, 1))), some (.inl (nI j))], [.inl 1], (I, J, R)) _ from ?_)
        refine dn_retb rfl rfl rfl rfl (by decide) ?_
        rw [show dpF (J 4 0 1) (n + 1) j = true from if_pos (Int64.not_le.mp (fun t => c2 ((lg_cmp_ge _ _).mpr t)))] at hQ
        exact hQ
set_option maxRecDepth 8000 in
theorem sw_deep_1 {I : tkI} {J : tkJ} {R : Nat → Nat} {Q : tkQ} (hQ : Q (some (.inl (if dpF (J 4 0 1) 256 0 = true then 1 else 0))) (I, J, R)) : tkDn tm_95 (0, [some (.inr (.inr (4, 0, 1))), none], [], (I, J, R)) Q := by
  refine dn_run 2 (show tkDn tm_95 (2, [some (.inr (.inr (4, 0, 1))), some (.inl 0)], [], (I, J, R)) _ from ?_)
  exact sw_deep_1_loop 256 0 rfl hQ
set_option maxRecDepth 8000 in
theorem sw_deep_4_loop {I : tkI} {J : tkJ} {R : Nat → Nat} {Q : tkQ} : ∀ n j, j + n = 96 → Q (some (.inl (if dpF (J 4 0 4) n j = true then 1 else 0))) (I, J, R) → tkDn tm_95 (2, [some (.inr (.inr (4, 0, 4))), some (.inl (nI j))], [], (I, J, R)) Q := by
  intro n
  induction n with
  | zero =>
    intro j hj hQ
    show tkDn tm_95 (2, [some (.inr (.inr (4, 0, 4))), some (.inl (nI j))], [], (I, J, R)) _
    refine dn_run 3 (show tkDn tm_95 (5, [some (.inr (.inr (4, 0, 4))), some (.inl (nI j))], [.inl 96, .inl (nI j)], (I, J, R)) _ from ?_)
    refine dn_if rfl rfl rfl (fun (c : 96 ≤ (nI j)) => ?_) (fun (c : ¬ 96 ≤ (nI j)) => ?_)
    · show tkDn tm_95 (26, [some (.inr (.inr (4, 0, 4))), some (.inl (nI j))], [], (I, J, R)) _
      refine dn_run 1 (show tkDn tm_95 (27, [some (.inr (.inr (4, 0, 4))), some (.inl (nI j))], [.inl 0], (I, J, R)) _ from ?_)
      refine dn_retb rfl rfl rfl rfl (by decide) ?_
      exact hQ
    · exact absurd (nI_le (a := 96) (by omega) (by omega)) c
  | succ n ih =>
    intro j hj hQ
    show tkDn tm_95 (2, [some (.inr (.inr (4, 0, 4))), some (.inl (nI j))], [], (I, J, R)) _
    refine dn_run 3 (show tkDn tm_95 (5, [some (.inr (.inr (4, 0, 4))), some (.inl (nI j))], [.inl 96, .inl (nI j)], (I, J, R)) _ from ?_)
    refine dn_if rfl rfl rfl (fun (c : 96 ≤ (nI j)) => ?_) (fun (c : ¬ 96 ≤ (nI j)) => ?_)
    · exact absurd c (nI_ge (b := 96) (by omega) (by omega))
    · show tkDn tm_95 (8, [some (.inr (.inr (4, 0, 4))), some (.inl (nI j))], [], (I, J, R)) _
      refine dn_run 5 (show (vp_in (nI j) 96) ∧ tkDn tm_95 (15, [some (.inr (.inr (4, 0, 4))), some (.inl (nI j))], [.inl (lg_cmp (J 4 0 4 ((nI j).toNatClampNeg)) (-1000000000000))], (I, J, R)) _ from ⟨vp_in_nI (by omega) (by omega), ?_⟩)
      rw [nI_clamp (show j < 2 ^ 31 by omega)]
      refine dn_if rfl rfl rfl (fun (c2 : 0 ≤ (lg_cmp (J 4 0 4 j) (-1000000000000))) => ?_) (fun (c2 : ¬ 0 ≤ (lg_cmp (J 4 0 4 j) (-1000000000000))) => ?_)
      · show tkDn tm_95 (20, [some (.inr (.inr (4, 0, 4))), some (.inl (nI j))], [], (I, J, R)) _
        refine dn_run 2 (show tkDn tm_95 (2, [some (.inr (.inr (4, 0, 4))), some (.inl ((nI j) + 1))], [], (I, J, R)) _ from ?_)
        rw [nI_1]
        rw [show dpF (J 4 0 4) (n + 1) j = dpF (J 4 0 4) n (j + 1) from if_neg (Int64.not_lt.mpr ((lg_cmp_ge _ _).mp c2))] at hQ
        exact ih (j + 1) (by omega) hQ
      · show tkDn tm_95 (18, [some (.inr (.inr (4, 0, 4))), some (.inl (nI j))], [], (I, J, R)) _
        refine dn_run 1 (show tkDn tm_95 (19, [some (.inr (.inr (4, 0, 4))), some (.inl (nI j))], [.inl 1], (I, J, R)) _ from ?_)
        refine dn_retb rfl rfl rfl rfl (by decide) ?_
        rw [show dpF (J 4 0 4) (n + 1) j = true from if_pos (Int64.not_le.mp (fun t => c2 ((lg_cmp_ge _ _).mpr t)))] at hQ
        exact hQ
set_option maxRecDepth 8000 in
theorem sw_deep_4 {I : tkI} {J : tkJ} {R : Nat → Nat} {Q : tkQ} (hQ : Q (some (.inl (if dpF (J 4 0 4) 96 0 = true then 1 else 0))) (I, J, R)) : tkDn tm_95 (0, [some (.inr (.inr (4, 0, 4))), none], [], (I, J, R)) Q := by
  refine dn_run 2 (show tkDn tm_95 (2, [some (.inr (.inr (4, 0, 4))), some (.inl 0)], [], (I, J, R)) _ from ?_)
  exact sw_deep_4_loop 96 0 rfl hQ
set_option maxRecDepth 8000 in
theorem sw_same_1_loop {I : tkI} {J : tkJ} {R : Nat → Nat} {Q : tkQ} : ∀ n j, j + n = 256 → Q (some (.inl (if smF (J 4 0 1) (J 4 0 2) n j = true then 1 else 0))) (I, J, R) → tkDn tm_96 (2, [some (.inr (.inr (4, 0, 1))), some (.inr (.inr (4, 0, 2))), some (.inl (nI j))], [], (I, J, R)) Q := by
  intro n
  induction n with
  | zero =>
    intro j hj hQ
    show tkDn tm_96 (2, [some (.inr (.inr (4, 0, 1))), some (.inr (.inr (4, 0, 2))), some (.inl (nI j))], [], (I, J, R)) _
    refine dn_run 3 (show tkDn tm_96 (5, [some (.inr (.inr (4, 0, 1))), some (.inr (.inr (4, 0, 2))), some (.inl (nI j))], [.inl 256, .inl (nI j)], (I, J, R)) _ from ?_)
    refine dn_if rfl rfl rfl (fun (c : 256 ≤ (nI j)) => ?_) (fun (c : ¬ 256 ≤ (nI j)) => ?_)
    · show tkDn tm_96 (32, [some (.inr (.inr (4, 0, 1))), some (.inr (.inr (4, 0, 2))), some (.inl (nI j))], [], (I, J, R)) _
      refine dn_run 1 (show tkDn tm_96 (33, [some (.inr (.inr (4, 0, 1))), some (.inr (.inr (4, 0, 2))), some (.inl (nI j))], [.inl 1], (I, J, R)) _ from ?_)
      refine dn_retb rfl rfl rfl rfl (by decide) ?_
      exact hQ
    · exact absurd (nI_le (a := 256) (by omega) (by omega)) c
  | succ n ih =>
    intro j hj hQ
    show tkDn tm_96 (2, [some (.inr (.inr (4, 0, 1))), some (.inr (.inr (4, 0, 2))), some (.inl (nI j))], [], (I, J, R)) _
    refine dn_run 3 (show tkDn tm_96 (5, [some (.inr (.inr (4, 0, 1))), some (.inr (.inr (4, 0, 2))), some (.inl (nI j))], [.inl 256, .inl (nI j)], (I, J, R)) _ from ?_)
    refine dn_if rfl rfl rfl (fun (c : 256 ≤ (nI j)) => ?_) (fun (c : ¬ 256 ≤ (nI j)) => ?_)
    · exact absurd c (nI_ge (b := 256) (by omega) (by omega))
    · show tkDn tm_96 (8, [some (.inr (.inr (4, 0, 1))), some (.inr (.inr (4, 0, 2))), some (.inl (nI j))], [], (I, J, R)) _
      refine dn_run 3 (show tkDn tm_96 (11, [some (.inr (.inr (4, 0, 1))), some (.inr (.inr (4, 0, 2))), some (.inl (nI j))], [.inl 256, .inl (nI j)], (I, J, R)) _ from ?_)
      refine dn_if rfl rfl rfl (fun (c3 : 256 ≤ (nI j)) => ?_) (fun (c3 : ¬ 256 ≤ (nI j)) => ?_)
      · exact absurd c3 (nI_ge (b := 256) (by omega) (by omega))
      · show tkDn tm_96 (14, [some (.inr (.inr (4, 0, 1))), some (.inr (.inr (4, 0, 2))), some (.inl (nI j))], [], (I, J, R)) _
        refine dn_run 7 (show (vp_in (nI j) 256) ∧ (vp_in (nI j) 256) ∧ tkDn tm_96 (21, [some (.inr (.inr (4, 0, 1))), some (.inr (.inr (4, 0, 2))), some (.inl (nI j))], [.inl (lg_cmp (J 4 0 1 ((nI j).toNatClampNeg)) (J 4 0 2 ((nI j).toNatClampNeg)))], (I, J, R)) _ from ⟨vp_in_nI (by omega) (by omega), vp_in_nI (by omega) (by omega), ?_⟩)
        rw [nI_clamp (show j < 2 ^ 31 by omega)]
        refine dn_if rfl rfl rfl (fun (c2 : (lg_cmp (J 4 0 1 j) (J 4 0 2 j)) = 0) => ?_) (fun (c2 : ¬ (lg_cmp (J 4 0 1 j) (J 4 0 2 j)) = 0) => ?_)
        · show tkDn tm_96 (26, [some (.inr (.inr (4, 0, 1))), some (.inr (.inr (4, 0, 2))), some (.inl (nI j))], [], (I, J, R)) _
          refine dn_run 2 (show tkDn tm_96 (2, [some (.inr (.inr (4, 0, 1))), some (.inr (.inr (4, 0, 2))), some (.inl ((nI j) + 1))], [], (I, J, R)) _ from ?_)
          rw [nI_1]
          rw [show smF (J 4 0 1) (J 4 0 2) (n + 1) j = smF (J 4 0 1) (J 4 0 2) n (j + 1) from if_pos ((lg_cmp_eq _ _).mp c2)] at hQ
          exact ih (j + 1) (by omega) hQ
        · show tkDn tm_96 (24, [some (.inr (.inr (4, 0, 1))), some (.inr (.inr (4, 0, 2))), some (.inl (nI j))], [], (I, J, R)) _
          refine dn_run 1 (show tkDn tm_96 (25, [some (.inr (.inr (4, 0, 1))), some (.inr (.inr (4, 0, 2))), some (.inl (nI j))], [.inl 0], (I, J, R)) _ from ?_)
          refine dn_retb rfl rfl rfl rfl (by decide) ?_
          rw [show smF (J 4 0 1) (J 4 0 2) (n + 1) j = false from if_neg (fun q => c2 ((lg_cmp_eq _ _).mpr q))] at hQ
          exact hQ
set_option maxRecDepth 8000 in
theorem sw_same_1 {I : tkI} {J : tkJ} {R : Nat → Nat} {Q : tkQ} (hQ : Q (some (.inl (if smF (J 4 0 1) (J 4 0 2) 256 0 = true then 1 else 0))) (I, J, R)) : tkDn tm_96 (0, [some (.inr (.inr (4, 0, 1))), some (.inr (.inr (4, 0, 2))), none], [], (I, J, R)) Q := by
  refine dn_run 2 (show tkDn tm_96 (2, [some (.inr (.inr (4, 0, 1))), some (.inr (.inr (4, 0, 2))), some (.inl 0)], [], (I, J, R)) _ from ?_)
  exact sw_same_1_loop 256 0 rfl hQ
set_option maxRecDepth 8000 in
theorem sw_same_4_loop {I : tkI} {J : tkJ} {R : Nat → Nat} {Q : tkQ} : ∀ n j, j + n = 96 → Q (some (.inl (if smF (J 4 0 4) (J 4 0 5) n j = true then 1 else 0))) (I, J, R) → tkDn tm_96 (2, [some (.inr (.inr (4, 0, 4))), some (.inr (.inr (4, 0, 5))), some (.inl (nI j))], [], (I, J, R)) Q := by
  intro n
  induction n with
  | zero =>
    intro j hj hQ
    show tkDn tm_96 (2, [some (.inr (.inr (4, 0, 4))), some (.inr (.inr (4, 0, 5))), some (.inl (nI j))], [], (I, J, R)) _
    refine dn_run 3 (show tkDn tm_96 (5, [some (.inr (.inr (4, 0, 4))), some (.inr (.inr (4, 0, 5))), some (.inl (nI j))], [.inl 96, .inl (nI j)], (I, J, R)) _ from ?_)
    refine dn_if rfl rfl rfl (fun (c : 96 ≤ (nI j)) => ?_) (fun (c : ¬ 96 ≤ (nI j)) => ?_)
    · show tkDn tm_96 (32, [some (.inr (.inr (4, 0, 4))), some (.inr (.inr (4, 0, 5))), some (.inl (nI j))], [], (I, J, R)) _
      refine dn_run 1 (show tkDn tm_96 (33, [some (.inr (.inr (4, 0, 4))), some (.inr (.inr (4, 0, 5))), some (.inl (nI j))], [.inl 1], (I, J, R)) _ from ?_)
      refine dn_retb rfl rfl rfl rfl (by decide) ?_
      exact hQ
    · exact absurd (nI_le (a := 96) (by omega) (by omega)) c
  | succ n ih =>
    intro j hj hQ
    show tkDn tm_96 (2, [some (.inr (.inr (4, 0, 4))), some (.inr (.inr (4, 0, 5))), some (.inl (nI j))], [], (I, J, R)) _
    refine dn_run 3 (show tkDn tm_96 (5, [some (.inr (.inr (4, 0, 4))), some (.inr (.inr (4, 0, 5))), some (.inl (nI j))], [.inl 96, .inl (nI j)], (I, J, R)) _ from ?_)
    refine dn_if rfl rfl rfl (fun (c : 96 ≤ (nI j)) => ?_) (fun (c : ¬ 96 ≤ (nI j)) => ?_)
    · exact absurd c (nI_ge (b := 96) (by omega) (by omega))
    · show tkDn tm_96 (8, [some (.inr (.inr (4, 0, 4))), some (.inr (.inr (4, 0, 5))), some (.inl (nI j))], [], (I, J, R)) _
      refine dn_run 3 (show tkDn tm_96 (11, [some (.inr (.inr (4, 0, 4))), some (.inr (.inr (4, 0, 5))), some (.inl (nI j))], [.inl 96, .inl (nI j)], (I, J, R)) _ from ?_)
      refine dn_if rfl rfl rfl (fun (c3 : 96 ≤ (nI j)) => ?_) (fun (c3 : ¬ 96 ≤ (nI j)) => ?_)
      · exact absurd c3 (nI_ge (b := 96) (by omega) (by omega))
      · show tkDn tm_96 (14, [some (.inr (.inr (4, 0, 4))), some (.inr (.inr (4, 0, 5))), some (.inl (nI j))], [], (I, J, R)) _
        refine dn_run 7 (show (vp_in (nI j) 96) ∧ (vp_in (nI j) 96) ∧ tkDn tm_96 (21, [some (.inr (.inr (4, 0, 4))), some (.inr (.inr (4, 0, 5))), some (.inl (nI j))], [.inl (lg_cmp (J 4 0 4 ((nI j).toNatClampNeg)) (J 4 0 5 ((nI j).toNatClampNeg)))], (I, J, R)) _ from ⟨vp_in_nI (by omega) (by omega), vp_in_nI (by omega) (by omega), ?_⟩)
        rw [nI_clamp (show j < 2 ^ 31 by omega)]
        refine dn_if rfl rfl rfl (fun (c2 : (lg_cmp (J 4 0 4 j) (J 4 0 5 j)) = 0) => ?_) (fun (c2 : ¬ (lg_cmp (J 4 0 4 j) (J 4 0 5 j)) = 0) => ?_)
        · show tkDn tm_96 (26, [some (.inr (.inr (4, 0, 4))), some (.inr (.inr (4, 0, 5))), some (.inl (nI j))], [], (I, J, R)) _
          refine dn_run 2 (show tkDn tm_96 (2, [some (.inr (.inr (4, 0, 4))), some (.inr (.inr (4, 0, 5))), some (.inl ((nI j) + 1))], [], (I, J, R)) _ from ?_)
          rw [nI_1]
          rw [show smF (J 4 0 4) (J 4 0 5) (n + 1) j = smF (J 4 0 4) (J 4 0 5) n (j + 1) from if_pos ((lg_cmp_eq _ _).mp c2)] at hQ
          exact ih (j + 1) (by omega) hQ
        · show tkDn tm_96 (24, [some (.inr (.inr (4, 0, 4))), some (.inr (.inr (4, 0, 5))), some (.inl (nI j))], [], (I, J, R)) _
          refine dn_run 1 (show tkDn tm_96 (25, [some (.inr (.inr (4, 0, 4))), some (.inr (.inr (4, 0, 5))), some (.inl (nI j))], [.inl 0], (I, J, R)) _ from ?_)
          refine dn_retb rfl rfl rfl rfl (by decide) ?_
          rw [show smF (J 4 0 4) (J 4 0 5) (n + 1) j = false from if_neg (fun q => c2 ((lg_cmp_eq _ _).mpr q))] at hQ
          exact hQ
set_option maxRecDepth 8000 in
theorem sw_same_4 {I : tkI} {J : tkJ} {R : Nat → Nat} {Q : tkQ} (hQ : Q (some (.inl (if smF (J 4 0 4) (J 4 0 5) 96 0 = true then 1 else 0))) (I, J, R)) : tkDn tm_96 (0, [some (.inr (.inr (4, 0, 4))), some (.inr (.inr (4, 0, 5))), none], [], (I, J, R)) Q := by
  refine dn_run 2 (show tkDn tm_96 (2, [some (.inr (.inr (4, 0, 4))), some (.inr (.inr (4, 0, 5))), some (.inl 0)], [], (I, J, R)) _ from ?_)
  exact sw_same_4_loop 96 0 rfl hQ
set_option maxRecDepth 8000 in
theorem sw_beginDelays_loop {I : tkI} {J : tkJ} {R : Nat → Nat} {Q : tkQ} {b : Nat} {S : tkS} (hP : NetP (I 1 b) S) (w : WF S) (hQ : ∀ r, WRow r (bdM S (sG S)) → Q none (I, tk_so J 4 0 (tk_u1 (J 4 0) 4 r), R)) : ∀ n g r, g + n = sG S → WRow r (bdM S g) → tkDn tm_87 (12, [some (.inr (.inr (4, 0, 0))), some (.inr (.inr (1, b, 0))), some (.inl (nI g))], [], (I, tk_so J 4 0 (tk_u1 (J 4 0) 4 r), R)) Q := by
  have hM16 := w.1
  have hL60 := w.2.1
  have hG6 := w.2.2.1
  intro n
  induction n with
  | zero =>
    intro g r hg hr
    show tkDn tm_87 (12, [some (.inr (.inr (4, 0, 0))), some (.inr (.inr (1, b, 0))), some (.inl (nI g))], [], (I, tk_so J 4 0 (tk_u1 (J 4 0) 4 r), R)) _
    refine dn_run 2 (show tkDn tm_87 (14, [some (.inr (.inr (4, 0, 0))), some (.inr (.inr (1, b, 0))), some (.inl (nI g))], [.inr (.inr (1, b, 0)), .inl (nI g)], (I, tk_so J 4 0 (tk_u1 (J 4 0) 4 r), R)) _ from ?_)
    refine dn_call rfl rfl rfl rfl rfl (sN_giftCount hP ?_)
    show tkDn tm_87 (17, [some (.inr (.inr (4, 0, 0))), some (.inr (.inr (1, b, 0))), some (.inl (nI g))], [.inl (nI (sG S)), .inl (nI g)], (I, tk_so J 4 0 (tk_u1 (J 4 0) 4 r), R)) _
    refine dn_if rfl rfl rfl (fun (c : (nI (sG S)) ≤ (nI g)) => ?_) (fun (c : ¬ (nI (sG S)) ≤ (nI g)) => ?_)
    · show tkDn tm_87 (47, [some (.inr (.inr (4, 0, 0))), some (.inr (.inr (1, b, 0))), some (.inl (nI g))], [], (I, tk_so J 4 0 (tk_u1 (J 4 0) 4 r), R)) _
      refine dn_ret0 rfl rfl rfl rfl ?_
      rw [show g = sG S by omega] at hr
      exact hQ r hr
    · exact absurd (nI_le (by omega) (by omega)) c
  | succ n ih =>
    intro g r hg hr
    have hgl := w.gl (g := g) (by omega)
    have he := w.eM hgl
    show tkDn tm_87 (12, [some (.inr (.inr (4, 0, 0))), some (.inr (.inr (1, b, 0))), some (.inl (nI g))], [], (I, tk_so J 4 0 (tk_u1 (J 4 0) 4 r), R)) _
    refine dn_run 2 (show tkDn tm_87 (14, [some (.inr (.inr (4, 0, 0))), some (.inr (.inr (1, b, 0))), some (.inl (nI g))], [.inr (.inr (1, b, 0)), .inl (nI g)], (I, tk_so J 4 0 (tk_u1 (J 4 0) 4 r), R)) _ from ?_)
    refine dn_call rfl rfl rfl rfl rfl (sN_giftCount hP ?_)
    show tkDn tm_87 (17, [some (.inr (.inr (4, 0, 0))), some (.inr (.inr (1, b, 0))), some (.inl (nI g))], [.inl (nI (sG S)), .inl (nI g)], (I, tk_so J 4 0 (tk_u1 (J 4 0) 4 r), R)) _
    refine dn_if rfl rfl rfl (fun (c : (nI (sG S)) ≤ (nI g)) => ?_) (fun (c : ¬ (nI (sG S)) ≤ (nI g)) => ?_)
    · exact absurd c (nI_ge (by omega) (by omega))
    · show tkDn tm_87 (20, [some (.inr (.inr (4, 0, 0))), some (.inr (.inr (1, b, 0))), some (.inl (nI g))], [], (I, tk_so J 4 0 (tk_u1 (J 4 0) 4 r), R)) _
      refine dn_run 4 (show tkDn tm_87 (26, [some (.inr (.inr (4, 0, 0))), some (.inr (.inr (1, b, 0))), some (.inl (nI g))], [.inl (nI g), .inr (.inr (1, b, 0)), .inr (.inr (4, 0, 4))], (I, tk_so J 4 0 (tk_u1 (J 4 0) 4 r), R)) _ from ?_)
      refine dn_call rfl rfl rfl rfl rfl (sN_giftTo hP w (g := g) (by omega) ?_)
      show tkDn tm_87 (29, [some (.inr (.inr (4, 0, 0))), some (.inr (.inr (1, b, 0))), some (.inl (nI g))], [.inl (nI (se S (sgl S g))), .inr (.inr (4, 0, 4))], (I, tk_so J 4 0 (tk_u1 (J 4 0) 4 r), R)) _
      refine dn_run 1 (show tkDn tm_87 (30, [some (.inr (.inr (4, 0, 0))), some (.inr (.inr (1, b, 0))), some (.inl (nI g))], [.inl (nI g), .inl (nI (se S (sgl S g))), .inr (.inr (4, 0, 4))], (I, tk_so J 4 0 (tk_u1 (J 4 0) 4 r), R)) _ from ?_)
      refine dn_call rfl rfl rfl rfl rfl (sw_cell ?_)
      show tkDn tm_87 (33, [some (.inr (.inr (4, 0, 0))), some (.inr (.inr (1, b, 0))), some (.inl (nI g))], [.inl (nI (6 * se S (sgl S g) + g)), .inr (.inr (4, 0, 4))], (I, tk_so J 4 0 (tk_u1 (J 4 0) 4 r), R)) _
      refine dn_run 2 (show tkDn tm_87 (35, [some (.inr (.inr (4, 0, 0))), some (.inr (.inr (1, b, 0))), some (.inl (nI g))], [.inl (nI g), .inr (.inr (1, b, 0)), .inl (nI (6 * se S (sgl S g) + g)), .inr (.inr (4, 0, 4))], (I, tk_so J 4 0 (tk_u1 (J 4 0) 4 r), R)) _ from ?_)
      refine dn_call rfl rfl rfl rfl rfl (sN_giftHigh hP w (g := g) (by omega) ?_)
      show tkDn tm_87 (38, [some (.inr (.inr (4, 0, 0))), some (.inr (.inr (1, b, 0))), some (.inl (nI g))], [.inl (shi S (sgl S g)), .inl (nI (6 * se S (sgl S g) + g)), .inr (.inr (4, 0, 4))], (I, tk_so J 4 0 (tk_u1 (J 4 0) 4 r), R)) _
      refine dn_run 5 (show (vp_in (nI (6 * se S (sgl S g) + g)) 96) ∧ tkDn tm_87 (12, [some (.inr (.inr (4, 0, 0))), some (.inr (.inr (1, b, 0))), some (.inl ((nI g) + 1))], [], (I, tk_so (tk_so J 4 0 (tk_u1 (J 4 0) 4 r)) 4 0 (tk_u2 (tk_u1 (J 4 0) 4 r) 4 ((nI (6 * se S (sgl S g) + g)).toNatClampNeg) (((-(shi S (sgl S g))) : Int32).toInt64)), R)) _ from ⟨vp_in_nI (by omega) (by omega), ?_⟩)
      rw [tk_so_so]
      rw [tk_u2_u1, nI_clamp (show 6 * se S (sgl S g) + g < 2 ^ 31 by omega), nI_1]
      exact ih (g + 1) _ (by omega) (hr.put (by omega))
set_option maxRecDepth 8000 in
theorem sw_beginDelays {I : tkI} {J : tkJ} {R : Nat → Nat} {Q : tkQ} {b : Nat} {S : tkS} (hP : NetP (I 1 b) S) (w : WF S) (hQ : ∀ r, WRow r (bdM S (sG S)) → Q none (I, tk_so J 4 0 (tk_u1 (J 4 0) 4 r), R)) : tkDn tm_87 (0, [some (.inr (.inr (4, 0, 0))), some (.inr (.inr (1, b, 0))), none], [], (I, J, R)) Q := by
  refine dn_run 3 (show tkDn tm_87 (7, [some (.inr (.inr (4, 0, 0))), some (.inr (.inr (1, b, 0))), none], [.inr (.inl 4611686018427387904), .inr (.inr (4, 0, 4))], (I, J, R)) _ from ?_)
  refine dn_call rfl rfl rfl rfl rfl (ss_fill_4_4 ?_)
  show tkDn tm_87 (10, [some (.inr (.inr (4, 0, 0))), some (.inr (.inr (1, b, 0))), none], [], (I, tk_so J 4 0 (tk_u1 (J 4 0) 4 (fillR (J 4 0 4) 96 4611686018427387904)), R)) _
  refine dn_run 2 (show tkDn tm_87 (12, [some (.inr (.inr (4, 0, 0))), some (.inr (.inr (1, b, 0))), some (.inl 0)], [], (I, tk_so J 4 0 (tk_u1 (J 4 0) 4 (fillR (J 4 0 4) 96 4611686018427387904)), R)) _ from ?_)
  refine sw_beginDelays_loop hP w hQ (sG S) 0 _ (Nat.zero_add _) (fun a g ha hg => ?_)
  unfold fillR
  rw [if_pos (by omega)]
  rfl
set_option maxRecDepth 8000 in
theorem sw_leastWaitVia_loop {I : tkI} {J : tkJ} {R : Nat → Nat} {Q : tkQ} {e v : tkD} {n a g : Nat} (hn : n ≤ 16) (ha : a < 16) (hg : g < 6) (he : RowP 16 (J 4 0 1) e) (hv : WRow (J 4 0 6) v) (hQ : Q (some (.inr (.inl (lwF e v a g n)))) (I, J, R)) : ∀ m c o7 o9, c + m = n → tkDn tm_90 (8, [some (.inr (.inr (4, 0, 0))), some (.inl (nI n)), some (.inl (nI a)), some (.inl (nI g)), some (.inr (.inl (lwF e v a g c))), none, some (.inl (nI c)), o7, none, o9, none], [], (I, J, R)) Q := by
  intro m
  induction m with
  | zero =>
    intro c o7 o9 hc
    show tkDn tm_90 (8, [some (.inr (.inr (4, 0, 0))), some (.inl (nI n)), some (.inl (nI a)), some (.inl (nI g)), some (.inr (.inl (lwF e v a g c))), none, some (.inl (nI c)), o7, none, o9, none], [], (I, J, R)) _
    refine dn_run 2 (show tkDn tm_90 (11, [some (.inr (.inr (4, 0, 0))), some (.inl (nI n)), some (.inl (nI a)), some (.inl (nI g)), some (.inr (.inl (lwF e v a g c))), none, some (.inl (nI c)), o7, none, o9, none], [.inl (nI n), .inl (nI c)], (I, J, R)) _ from ?_)
    refine dn_if rfl rfl rfl (fun (q : (nI n) ≤ (nI c)) => ?_) (fun (q : ¬ (nI n) ≤ (nI c)) => ?_)
    · show tkDn tm_90 (76, [some (.inr (.inr (4, 0, 0))), some (.inl (nI n)), some (.inl (nI a)), some (.inl (nI g)), some (.inr (.inl (lwF e v a g c))), none, some (.inl (nI c)), o7, none, o9, none], [], (I, J, R)) _
      refine dn_run 1 (show tkDn tm_90 (78, [some (.inr (.inr (4, 0, 0))), some (.inl (nI n)), some (.inl (nI a)), some (.inl (nI g)), some (.inr (.inl (lwF e v a g c))), none, some (.inl (nI c)), o7, none, o9, none], [.inr (.inl (lwF e v a g c))], (I, J, R)) _ from ?_)
      refine dn_ret0 rfl rfl rfl rfl ?_
      rw [show c = n by omega]
      exact hQ
    · exact absurd (nI_le (by omega) (by omega)) q
  | succ m ih =>
    intro c o7 o9 hc
    show tkDn tm_90 (8, [some (.inr (.inr (4, 0, 0))), some (.inl (nI n)), some (.inl (nI a)), some (.inl (nI g)), some (.inr (.inl (lwF e v a g c))), none, some (.inl (nI c)), o7, none, o9, none], [], (I, J, R)) _
    refine dn_run 2 (show tkDn tm_90 (11, [some (.inr (.inr (4, 0, 0))), some (.inl (nI n)), some (.inl (nI a)), some (.inl (nI g)), some (.inr (.inl (lwF e v a g c))), none, some (.inl (nI c)), o7, none, o9, none], [.inl (nI n), .inl (nI c)], (I, J, R)) _ from ?_)
    refine dn_if rfl rfl rfl (fun (q : (nI n) ≤ (nI c)) => ?_) (fun (q : ¬ (nI n) ≤ (nI c)) => ?_)
    · exact absurd q (nI_ge (by omega) (by omega))
    · show tkDn tm_90 (14, [some (.inr (.inr (4, 0, 0))), some (.inl (nI n)), some (.inl (nI a)), some (.inl (nI g)), some (.inr (.inl (lwF e v a g c))), none, some (.inl (nI c)), o7, none, o9, none], [], (I, J, R)) _
      refine dn_run 4 (show tkDn tm_90 (21, [some (.inr (.inr (4, 0, 0))), some (.inl (nI n)), some (.inl (nI a)), some (.inl (nI g)), some (.inr (.inl (lwF e v a g c))), none, some (.inl (nI c)), o7, none, o9, none], [.inl (nI c), .inl (nI a), .inr (.inr (4, 0, 1))], (I, J, R)) _ from ?_)
      refine dn_call rfl rfl rfl rfl rfl (ss_cell ?_)
      show tkDn tm_90 (24, [some (.inr (.inr (4, 0, 0))), some (.inl (nI n)), some (.inl (nI a)), some (.inl (nI g)), some (.inr (.inl (lwF e v a g c))), none, some (.inl (nI c)), o7, none, o9, none], [.inl (nI (16 * a + c)), .inr (.inr (4, 0, 1))], (I, J, R)) _
      refine dn_run 2 (show (vp_in (nI (16 * a + c)) 256) ∧ tkDn tm_90 (27, [some (.inr (.inr (4, 0, 0))), some (.inl (nI n)), some (.inl (nI a)), some (.inl (nI g)), some (.inr (.inl (lwF e v a g c))), none, some (.inl (nI c)), some (.inr (.inl (J 4 0 1 ((nI (16 * a + c)).toNatClampNeg)))), none, o9, none], [], (I, J, R)) _ from ⟨vp_in_nI (by omega) (by omega), ?_⟩)
      rw [he.at (by omega) ha (by omega)]
      show tkDn tm_90 (27, [some (.inr (.inr (4, 0, 0))), some (.inl (nI n)), some (.inl (nI a)), some (.inl (nI g)), some (.inr (.inl (lwF e v a g c))), none, some (.inl (nI c)), some (.inr (.inl (e a c))), none, o9, none], [], (I, J, R)) _
      refine dn_run 4 (show tkDn tm_90 (34, [some (.inr (.inr (4, 0, 0))), some (.inl (nI n)), some (.inl (nI a)), some (.inl (nI g)), some (.inr (.inl (lwF e v a g c))), none, some (.inl (nI c)), some (.inr (.inl (e a c))), none, o9, none], [.inl (nI g), .inl (nI c), .inr (.inr (4, 0, 6))], (I, J, R)) _ from ?_)
      refine dn_call rfl rfl rfl rfl rfl (sw_cell ?_)
      show tkDn tm_90 (37, [some (.inr (.inr (4, 0, 0))), some (.inl (nI n)), some (.inl (nI a)), some (.inl (nI g)), some (.inr (.inl (lwF e v a g c))), none, some (.inl (nI c)), some (.inr (.inl (e a c))), none, o9, none], [.inl (nI (6 * c + g)), .inr (.inr (4, 0, 6))], (I, J, R)) _
      refine dn_run 2 (show (vp_in (nI (6 * c + g)) 96) ∧ tkDn tm_90 (40, [some (.inr (.inr (4, 0, 0))), some (.inl (nI n)), some (.inl (nI a)), some (.inl (nI g)), some (.inr (.inl (lwF e v a g c))), none, some (.inl (nI c)), some (.inr (.inl (e a c))), none, some (.inr (.inl (J 4 0 6 ((nI (6 * c + g)).toNatClampNeg)))), none], [], (I, J, R)) _ from ⟨vp_in_nI (by omega) (by omega), ?_⟩)
      rw [hv.at (by omega) hg]
      show tkDn tm_90 (40, [some (.inr (.inr (4, 0, 0))), some (.inl (nI n)), some (.inl (nI a)), some (.inl (nI g)), some (.inr (.inl (lwF e v a g c))), none, some (.inl (nI c)), some (.inr (.inl (e a c))), none, some (.inr (.inl (v c g))), none], [], (I, J, R)) _
      refine dn_run 3 (show tkDn tm_90 (46, [some (.inr (.inr (4, 0, 0))), some (.inl (nI n)), some (.inl (nI a)), some (.inl (nI g)), some (.inr (.inl (lwF e v a g c))), none, some (.inl (nI c)), some (.inr (.inl (e a c))), none, some (.inr (.inl (v c g))), none], [.inl (lg_cmp (e a c) 4611686018427387904)], (I, J, R)) _ from ?_)
      refine dn_if rfl rfl rfl (fun (c1 : (lg_cmp (e a c) 4611686018427387904) = 0) => ?_) (fun (c1 : ¬ (lg_cmp (e a c) 4611686018427387904) = 0) => ?_)
      · show tkDn tm_90 (70, [some (.inr (.inr (4, 0, 0))), some (.inl (nI n)), some (.inl (nI a)), some (.inl (nI g)), some (.inr (.inl (lwF e v a g c))), none, some (.inl (nI c)), some (.inr (.inl (e a c))), none, some (.inr (.inl (v c g))), none], [], (I, J, R)) _
        refine dn_run 2 (show tkDn tm_90 (8, [some (.inr (.inr (4, 0, 0))), some (.inl (nI n)), some (.inl (nI a)), some (.inl (nI g)), some (.inr (.inl (lwF e v a g c))), none, some (.inl ((nI c) + 1)), some (.inr (.inl (e a c))), none, some (.inr (.inl (v c g))), none], [], (I, J, R)) _ from ?_)
        rw [nI_1]
        rw [show lwF e v a g c = lwF e v a g (c + 1) from (if_neg (fun q => q.1 ((lg_cmp_eq _ _).mp c1))).symm]
        exact ih (c + 1) _ _ (by omega)
      · show tkDn tm_90 (49, [some (.inr (.inr (4, 0, 0))), some (.inl (nI n)), some (.inl (nI a)), some (.inl (nI g)), some (.inr (.inl (lwF e v a g c))), none, some (.inl (nI c)), some (.inr (.inl (e a c))), none, some (.inr (.inl (v c g))), none], [], (I, J, R)) _
        refine dn_run 3 (show tkDn tm_90 (55, [some (.inr (.inr (4, 0, 0))), some (.inl (nI n)), some (.inl (nI a)), some (.inl (nI g)), some (.inr (.inl (lwF e v a g c))), none, some (.inl (nI c)), some (.inr (.inl (e a c))), none, some (.inr (.inl (v c g))), none], [.inl (lg_cmp (v c g) 4611686018427387904)], (I, J, R)) _ from ?_)
        refine dn_if rfl rfl rfl (fun (c2 : (lg_cmp (v c g) 4611686018427387904) = 0) => ?_) (fun (c2 : ¬ (lg_cmp (v c g) 4611686018427387904) = 0) => ?_)
        · show tkDn tm_90 (70, [some (.inr (.inr (4, 0, 0))), some (.inl (nI n)), some (.inl (nI a)), some (.inl (nI g)), some (.inr (.inl (lwF e v a g c))), none, some (.inl (nI c)), some (.inr (.inl (e a c))), none, some (.inr (.inl (v c g))), none], [], (I, J, R)) _
          refine dn_run 2 (show tkDn tm_90 (8, [some (.inr (.inr (4, 0, 0))), some (.inl (nI n)), some (.inl (nI a)), some (.inl (nI g)), some (.inr (.inl (lwF e v a g c))), none, some (.inl ((nI c) + 1)), some (.inr (.inl (e a c))), none, some (.inr (.inl (v c g))), none], [], (I, J, R)) _ from ?_)
          rw [nI_1]
          rw [show lwF e v a g c = lwF e v a g (c + 1) from (if_neg (fun q => q.2 ((lg_cmp_eq _ _).mp c2))).symm]
          exact ih (c + 1) _ _ (by omega)
        · show tkDn tm_90 (58, [some (.inr (.inr (4, 0, 0))), some (.inl (nI n)), some (.inl (nI a)), some (.inl (nI g)), some (.inr (.inl (lwF e v a g c))), none, some (.inl (nI c)), some (.inr (.inl (e a c))), none, some (.inr (.inl (v c g))), none], [], (I, J, R)) _
          refine dn_run 8 (show tkDn tm_90 (8, [some (.inr (.inr (4, 0, 0))), some (.inl (nI n)), some (.inl (nI a)), some (.inl (nI g)), some (.inr (.inl (if ((e a c) + (v c g)) < (lwF e v a g c) then ((e a c) + (v c g)) else (lwF e v a g c)))), none, some (.inl ((nI c) + 1)), some (.inr (.inl (e a c))), none, some (.inr (.inl (v c g))), none], [], (I, J, R)) _ from ?_)
          rw [nI_1]
          rw [show (if (e a c + v c g) < lwF e v a g c then (e a c + v c g) else lwF e v a g c) = lwF e v a g (c + 1) from (if_pos ⟨fun q => c1 ((lg_cmp_eq _ _).mpr q), fun q => c2 ((lg_cmp_eq _ _).mpr q)⟩).symm]
          exact ih (c + 1) _ _ (by omega)
set_option maxRecDepth 8000 in
theorem sw_leastWaitVia {I : tkI} {J : tkJ} {R : Nat → Nat} {Q : tkQ} {e v : tkD} {n a g : Nat} (hn : n ≤ 16) (ha : a < 16) (hg : g < 6) (he : RowP 16 (J 4 0 1) e) (hv : WRow (J 4 0 6) v) (hQ : Q (some (.inr (.inl (lwF e v a g n)))) (I, J, R)) : tkDn tm_90 (0, [some (.inr (.inr (4, 0, 0))), some (.inl (nI n)), some (.inl (nI a)), some (.inl (nI g)), none, none, none, none, none, none, none], [], (I, J, R)) Q := by
  refine dn_run 4 (show tkDn tm_90 (8, [some (.inr (.inr (4, 0, 0))), some (.inl (nI n)), some (.inl (nI a)), some (.inl (nI g)), some (.inr (.inl 4611686018427387904)), none, some (.inl 0), none, none, none, none], [], (I, J, R)) _ from ?_)
  exact sw_leastWaitVia_loop hn ha hg he hv hQ n 0 none none (Nat.zero_add _)
end
section
/-! Waits: the steps of a round. J is written as tk_so J 4 0 N: N holds the rows of Waits -/
set_option maxRecDepth 8000 in
theorem sw_cwae_in {I : tkI} {J : tkJ} {R : Nat → Nat} {Q : tkQ} {b : Nat} {S : tkS} (hP : NetP (I 1 b) S) (w : WF S) {e v : tkD} {N : Nat → Nat → Int64} (he : RowP 16 (N 1) e) (hv : WRow (N 6) v) {a : Nat} (ha : a < sM S) (hK : ∀ r, WRow r (caM e v (sM S) (sG S) a (sG S)) → tkDn tm_89 (57, [some (.inr (.inr (4, 0, 0))), some (.inr (.inr (1, b, 0))), some (.inl (nI a)), some (.inl (nI (sG S)))], [], (I, tk_so J 4 0 (tk_u1 N 4 r), R)) Q) : ∀ m g r, g + m = sG S → WRow r (caM e v (sM S) (sG S) a g) → tkDn tm_89 (23, [some (.inr (.inr (4, 0, 0))), some (.inr (.inr (1, b, 0))), some (.inl (nI a)), some (.inl (nI g))], [], (I, tk_so J 4 0 (tk_u1 N 4 r), R)) Q := by
  have hM16 := w.1
  have hL60 := w.2.1
  have hG6 := w.2.2.1
  intro m
  induction m with
  | zero =>
    intro g r hg hr
    have hg : g = sG S := by omega
    subst hg
    show tkDn tm_89 (23, [some (.inr (.inr (4, 0, 0))), some (.inr (.inr (1, b, 0))), some (.inl (nI a)), some (.inl (nI (sG S)))], [], (I, tk_so J 4 0 (tk_u1 N 4 r), R)) _
    refine dn_run 2 (show tkDn tm_89 (25, [some (.inr (.inr (4, 0, 0))), some (.inr (.inr (1, b, 0))), some (.inl (nI a)), some (.inl (nI (sG S)))], [.inr (.inr (1, b, 0)), .inl (nI (sG S))], (I, tk_so J 4 0 (tk_u1 N 4 r), R)) _ from ?_)
    refine dn_call rfl rfl rfl rfl rfl (sN_giftCount hP ?_)
    show tkDn tm_89 (28, [some (.inr (.inr (4, 0, 0))), some (.inr (.inr (1, b, 0))), some (.inl (nI a)), some (.inl (nI (sG S)))], [.inl (nI (sG S)), .inl (nI (sG S))], (I, tk_so J 4 0 (tk_u1 N 4 r), R)) _
    refine dn_if rfl rfl rfl (fun (q : (nI (sG S)) ≤ (nI (sG S))) => ?_) (fun (q : ¬ (nI (sG S)) ≤ (nI (sG S))) => ?_)
    · show tkDn tm_89 (57, [some (.inr (.inr (4, 0, 0))), some (.inr (.inr (1, b, 0))), some (.inl (nI a)), some (.inl (nI (sG S)))], [], (I, tk_so J 4 0 (tk_u1 N 4 r), R)) _
      exact hK r hr
    · exact absurd (nI_le (by omega) (by omega)) q
  | succ m ih =>
    intro g r hg hr
    show tkDn tm_89 (23, [some (.inr (.inr (4, 0, 0))), some (.inr (.inr (1, b, 0))), some (.inl (nI a)), some (.inl (nI g))], [], (I, tk_so J 4 0 (tk_u1 N 4 r), R)) _
    refine dn_run 2 (show tkDn tm_89 (25, [some (.inr (.inr (4, 0, 0))), some (.inr (.inr (1, b, 0))), some (.inl (nI a)), some (.inl (nI g))], [.inr (.inr (1, b, 0)), .inl (nI g)], (I, tk_so J 4 0 (tk_u1 N 4 r), R)) _ from ?_)
    refine dn_call rfl rfl rfl rfl rfl (sN_giftCount hP ?_)
    show tkDn tm_89 (28, [some (.inr (.inr (4, 0, 0))), some (.inr (.inr (1, b, 0))), some (.inl (nI a)), some (.inl (nI g))], [.inl (nI (sG S)), .inl (nI g)], (I, tk_so J 4 0 (tk_u1 N 4 r), R)) _
    refine dn_if rfl rfl rfl (fun (q : (nI (sG S)) ≤ (nI g)) => ?_) (fun (q : ¬ (nI (sG S)) ≤ (nI g)) => ?_)
    · exact absurd q (nI_ge (by omega) (by omega))
    · show tkDn tm_89 (31, [some (.inr (.inr (4, 0, 0))), some (.inr (.inr (1, b, 0))), some (.inl (nI a)), some (.inl (nI g))], [], (I, tk_so J 4 0 (tk_u1 N 4 r), R)) _
      refine dn_run 4 (show tkDn tm_89 (37, [some (.inr (.inr (4, 0, 0))), some (.inr (.inr (1, b, 0))), some (.inl (nI a)), some (.inl (nI g))], [.inl (nI g), .inl (nI a), .inr (.inr (4, 0, 4))], (I, tk_so J 4 0 (tk_u1 N 4 r), R)) _ from ?_)
      refine dn_call rfl rfl rfl rfl rfl (sw_cell ?_)
      show tkDn tm_89 (40, [some (.inr (.inr (4, 0, 0))), some (.inr (.inr (1, b, 0))), some (.inl (nI a)), some (.inl (nI g))], [.inl (nI (6 * a + g)), .inr (.inr (4, 0, 4))], (I, tk_so J 4 0 (tk_u1 N 4 r), R)) _
      refine dn_run 2 (show tkDn tm_89 (42, [some (.inr (.inr (4, 0, 0))), some (.inr (.inr (1, b, 0))), some (.inl (nI a)), some (.inl (nI g))], [.inr (.inr (1, b, 0)), .inr (.inr (4, 0, 0)), .inl (nI (6 * a + g)), .inr (.inr (4, 0, 4))], (I, tk_so J 4 0 (tk_u1 N 4 r), R)) _ from ?_)
      refine dn_call rfl rfl rfl rfl rfl (sN_momentCount hP ?_)
      show tkDn tm_89 (45, [some (.inr (.inr (4, 0, 0))), some (.inr (.inr (1, b, 0))), some (.inl (nI a)), some (.inl (nI g))], [.inl (nI (sM S)), .inr (.inr (4, 0, 0)), .inl (nI (6 * a + g)), .inr (.inr (4, 0, 4))], (I, tk_so J 4 0 (tk_u1 N 4 r), R)) _
      refine dn_run 2 (show tkDn tm_89 (47, [some (.inr (.inr (4, 0, 0))), some (.inr (.inr (1, b, 0))), some (.inl (nI a)), some (.inl (nI g))], [.inl (nI g), .inl (nI a), .inl (nI (sM S)), .inr (.inr (4, 0, 0)), .inl (nI (6 * a + g)), .inr (.inr (4, 0, 4))], (I, tk_so J 4 0 (tk_u1 N 4 r), R)) _ from ?_)
      refine dn_call rfl rfl rfl rfl rfl (sw_leastWaitVia (e := e) (v := v) (by omega) (by omega) (by omega) he hv ?_)
      show tkDn tm_89 (50, [some (.inr (.inr (4, 0, 0))), some (.inr (.inr (1, b, 0))), some (.inl (nI a)), some (.inl (nI g))], [.inr (.inl (lwF e v a g (sM S))), .inl (nI (6 * a + g)), .inr (.inr (4, 0, 4))], (I, tk_so J 4 0 (tk_u1 N 4 r), R)) _
      refine dn_run 3 (show (vp_in (nI (6 * a + g)) 96) ∧ tkDn tm_89 (23, [some (.inr (.inr (4, 0, 0))), some (.inr (.inr (1, b, 0))), some (.inl (nI a)), some (.inl ((nI g) + 1))], [], (I, tk_so (tk_so J 4 0 (tk_u1 N 4 r)) 4 0 (tk_u2 (tk_u1 N 4 r) 4 ((nI (6 * a + g)).toNatClampNeg) (lwF e v a g (sM S))), R)) _ from ⟨vp_in_nI (by omega) (by omega), ?_⟩)
      rw [tk_so_so]
      rw [tk_u2_u1, nI_clamp (show 6 * a + g < 2 ^ 31 by omega), nI_1]
      exact ih (g + 1) _ (by omega) (by rw [← caM_s ha (by omega)]; exact hr.put (by omega))
set_option maxRecDepth 8000 in
theorem sw_cwae_out {I : tkI} {J : tkJ} {R : Nat → Nat} {Q : tkQ} {b : Nat} {S : tkS} (hP : NetP (I 1 b) S) (w : WF S) {e v : tkD} {N : Nat → Nat → Int64} (he : RowP 16 (N 1) e) (hv : WRow (N 6) v) (hQ : ∀ r, WRow r (caM e v (sM S) (sG S) (sM S) 0) → Q none (I, tk_so J 4 0 (tk_u1 N 4 r), R)) : ∀ m a r o, a + m = sM S → WRow r (caM e v (sM S) (sG S) a 0) → tkDn tm_89 (13, [some (.inr (.inr (4, 0, 0))), some (.inr (.inr (1, b, 0))), some (.inl (nI a)), o], [], (I, tk_so J 4 0 (tk_u1 N 4 r), R)) Q := by
  have hM16 := w.1
  have hL60 := w.2.1
  have hG6 := w.2.2.1
  intro m
  induction m with
  | zero =>
    intro a r o ha hr
    show tkDn tm_89 (13, [some (.inr (.inr (4, 0, 0))), some (.inr (.inr (1, b, 0))), some (.inl (nI a)), o], [], (I, tk_so J 4 0 (tk_u1 N 4 r), R)) _
    refine dn_run 2 (show tkDn tm_89 (15, [some (.inr (.inr (4, 0, 0))), some (.inr (.inr (1, b, 0))), some (.inl (nI a)), o], [.inr (.inr (1, b, 0)), .inl (nI a)], (I, tk_so J 4 0 (tk_u1 N 4 r), R)) _ from ?_)
    refine dn_call rfl rfl rfl rfl rfl (sN_momentCount hP ?_)
    show tkDn tm_89 (18, [some (.inr (.inr (4, 0, 0))), some (.inr (.inr (1, b, 0))), some (.inl (nI a)), o], [.inl (nI (sM S)), .inl (nI a)], (I, tk_so J 4 0 (tk_u1 N 4 r), R)) _
    refine dn_if rfl rfl rfl (fun (q : (nI (sM S)) ≤ (nI a)) => ?_) (fun (q : ¬ (nI (sM S)) ≤ (nI a)) => ?_)
    · show tkDn tm_89 (63, [some (.inr (.inr (4, 0, 0))), some (.inr (.inr (1, b, 0))), some (.inl (nI a)), o], [], (I, tk_so J 4 0 (tk_u1 N 4 r), R)) _
      refine dn_ret0 rfl rfl rfl rfl ?_
      rw [show a = sM S by omega] at hr
      exact hQ r hr
    · exact absurd (nI_le (by omega) (by omega)) q
  | succ m ih =>
    intro a r o ha hr
    show tkDn tm_89 (13, [some (.inr (.inr (4, 0, 0))), some (.inr (.inr (1, b, 0))), some (.inl (nI a)), o], [], (I, tk_so J 4 0 (tk_u1 N 4 r), R)) _
    refine dn_run 2 (show tkDn tm_89 (15, [some (.inr (.inr (4, 0, 0))), some (.inr (.inr (1, b, 0))), some (.inl (nI a)), o], [.inr (.inr (1, b, 0)), .inl (nI a)], (I, tk_so J 4 0 (tk_u1 N 4 r), R)) _ from ?_)
    refine dn_call rfl rfl rfl rfl rfl (sN_momentCount hP ?_)
    show tkDn tm_89 (18, [some (.inr (.inr (4, 0, 0))), some (.inr (.inr (1, b, 0))), some (.inl (nI a)), o], [.inl (nI (sM S)), .inl (nI a)], (I, tk_so J 4 0 (tk_u1 N 4 r), R)) _
    refine dn_if rfl rfl rfl (fun (q : (nI (sM S)) ≤ (nI a)) => ?_) (fun (q : ¬ (nI (sM S)) ≤ (nI a)) => ?_)
    · exact absurd q (nI_ge (by omega) (by omega))
    · show tkDn tm_89 (21, [some (.inr (.inr (4, 0, 0))), some (.inr (.inr (1, b, 0))), some (.inl (nI a)), o], [], (I, tk_so J 4 0 (tk_u1 N 4 r), R)) _
      refine dn_run 2 (show tkDn tm_89 (23, [some (.inr (.inr (4, 0, 0))), some (.inr (.inr (1, b, 0))), some (.inl (nI a)), some (.inl 0)], [], (I, tk_so J 4 0 (tk_u1 N 4 r), R)) _ from ?_)
      refine sw_cwae_in hP w he hv (by omega) (fun r2 hr2 => ?_) (sG S) 0 r (Nat.zero_add _) hr
      show tkDn tm_89 (57, [some (.inr (.inr (4, 0, 0))), some (.inr (.inr (1, b, 0))), some (.inl (nI a)), some (.inl (nI (sG S)))], [], (I, tk_so J 4 0 (tk_u1 N 4 r2), R)) _
      refine dn_run 2 (show tkDn tm_89 (13, [some (.inr (.inr (4, 0, 0))), some (.inr (.inr (1, b, 0))), some (.inl ((nI a) + 1)), some (.inl (nI (sG S)))], [], (I, tk_so J 4 0 (tk_u1 N 4 r2), R)) _ from ?_)
      rw [nI_1]
      exact ih (a + 1) r2 _ (by omega) (by rw [← caM_n]; exact hr2)
set_option maxRecDepth 8000 in
theorem sw_carryWaitsAlongEdges {I : tkI} {J : tkJ} {R : Nat → Nat} {Q : tkQ} {b : Nat} {S : tkS} (hP : NetP (I 1 b) S) (w : WF S) {e v : tkD} {N : Nat → Nat → Int64} (he : RowP 16 (N 1) e) (hv : WRow (N 4) v) (hQ : ∀ N2, WRow (N2 4) (caM e v (sM S) (sG S) (sM S) 0) → (∀ s, s ≠ 4 → s ≠ 6 → N2 s = N s) → Q none (I, tk_so J 4 0 N2, R)) : tkDn tm_89 (0, [some (.inr (.inr (4, 0, 0))), some (.inr (.inr (1, b, 0))), none, none], [], (I, tk_so J 4 0 N, R)) Q := by
  refine dn_run 4 (show tkDn tm_89 (8, [some (.inr (.inr (4, 0, 0))), some (.inr (.inr (1, b, 0))), none, none], [.inr (.inr (4, 0, 6)), .inr (.inr (4, 0, 4))], (I, tk_so J 4 0 N, R)) _ from ?_)
  refine dn_call rfl rfl rfl rfl rfl (sw_copy_4_6 (fun r hr => ?_))
  rw [tk_so_so, tk_so_same]
  rw [tk_so_same] at hr
  show tkDn tm_89 (11, [some (.inr (.inr (4, 0, 0))), some (.inr (.inr (1, b, 0))), none, none], [], (I, tk_so J 4 0 (tk_u1 N 6 r), R)) _
  refine dn_run 2 (show tkDn tm_89 (13, [some (.inr (.inr (4, 0, 0))), some (.inr (.inr (1, b, 0))), some (.inl 0), none], [], (I, tk_so J 4 0 (tk_u1 N 6 r), R)) _ from ?_)
  have key := sw_cwae_out (J := J) (N := tk_u1 N 6 r) (R := R) (Q := Q) (e := e) (v := v) hP w (by rw [tk_u1_ne (by decide)]; exact he) (by rw [tk_u1_same]; exact hv.cp hr) (fun r2 hr2 => hQ _ (by rw [tk_u1_same]; exact hr2) (fun s h4 h6 => by rw [tk_u1_ne h4, tk_u1_ne h6])) (sM S) 0 (N 4) none (Nat.zero_add _) (by rw [caM_0]; exact hv)
  rw [show tk_u1 (tk_u1 N 6 r) 4 (N 4) = tk_u1 N 6 r by rw [show N 4 = tk_u1 N 6 r 4 from (tk_u1_ne (by decide)).symm, tk_u1_id]] at key
  exact key
end
section
/-! Waits: the other steps of a round -/
set_option maxRecDepth 8000 in
theorem sw_ts_in {I : tkI} {J : tkJ} {R : Nat → Nat} {Q : tkQ} {b : Nat} {S : tkS} (hP : NetP (I 1 b) S) (w : WF S) {e v : tkD} {N : Nat → Nat → Int64} (hv : WRow (N 4) v) {g : Nat} (hg : g < sG S) (hK : ∀ r o4, RowP 16 r (tsI S v g (tsO S v e (sM S) g) (sM S)) → tkDn tm_91 (84, [some (.inr (.inr (4, 0, 0))), some (.inr (.inr (1, b, 0))), some (.inl (nI g)), some (.inl (nI (sM S))), o4, none], [], (I, tk_so J 4 0 (tk_u1 N 1 r), R)) Q) : ∀ m c r o4, c + m = sM S → RowP 16 r (tsI S v g (tsO S v e (sM S) g) c) → tkDn tm_91 (12, [some (.inr (.inr (4, 0, 0))), some (.inr (.inr (1, b, 0))), some (.inl (nI g)), some (.inl (nI c)), o4, none], [], (I, tk_so J 4 0 (tk_u1 N 1 r), R)) Q := by
  have hM16 := w.1
  have hL60 := w.2.1
  have hG6 := w.2.2.1
  have hgl := w.gl hg
  have hf := w.fM hgl
  have he_ := w.eM hgl
  intro m
  induction m with
  | zero =>
    intro c r o4 hc hr
    have hc : c = sM S := by omega
    subst hc
    show tkDn tm_91 (12, [some (.inr (.inr (4, 0, 0))), some (.inr (.inr (1, b, 0))), some (.inl (nI g)), some (.inl (nI (sM S))), o4, none], [], (I, tk_so J 4 0 (tk_u1 N 1 r), R)) _
    refine dn_run 2 (show tkDn tm_91 (14, [some (.inr (.inr (4, 0, 0))), some (.inr (.inr (1, b, 0))), some (.inl (nI g)), some (.inl (nI (sM S))), o4, none], [.inr (.inr (1, b, 0)), .inl (nI (sM S))], (I, tk_so J 4 0 (tk_u1 N 1 r), R)) _ from ?_)
    refine dn_call rfl rfl rfl rfl rfl (sN_momentCount hP ?_)
    show tkDn tm_91 (17, [some (.inr (.inr (4, 0, 0))), some (.inr (.inr (1, b, 0))), some (.inl (nI g)), some (.inl (nI (sM S))), o4, none], [.inl (nI (sM S)), .inl (nI (sM S))], (I, tk_so J 4 0 (tk_u1 N 1 r), R)) _
    refine dn_if rfl rfl rfl (fun (qq : (nI (sM S)) ≤ (nI (sM S))) => ?_) (fun (qq : ¬ (nI (sM S)) ≤ (nI (sM S))) => ?_)
    · show tkDn tm_91 (84, [some (.inr (.inr (4, 0, 0))), some (.inr (.inr (1, b, 0))), some (.inl (nI g)), some (.inl (nI (sM S))), o4, none], [], (I, tk_so J 4 0 (tk_u1 N 1 r), R)) _
      exact hK r _ hr
    · exact absurd (nI_le (by omega) (by omega)) qq
  | succ m ih =>
    intro c r o4 hc hr
    show tkDn tm_91 (12, [some (.inr (.inr (4, 0, 0))), some (.inr (.inr (1, b, 0))), some (.inl (nI g)), some (.inl (nI c)), o4, none], [], (I, tk_so J 4 0 (tk_u1 N 1 r), R)) _
    refine dn_run 2 (show tkDn tm_91 (14, [some (.inr (.inr (4, 0, 0))), some (.inr (.inr (1, b, 0))), some (.inl (nI g)), some (.inl (nI c)), o4, none], [.inr (.inr (1, b, 0)), .inl (nI c)], (I, tk_so J 4 0 (tk_u1 N 1 r), R)) _ from ?_)
    refine dn_call rfl rfl rfl rfl rfl (sN_momentCount hP ?_)
    show tkDn tm_91 (17, [some (.inr (.inr (4, 0, 0))), some (.inr (.inr (1, b, 0))), some (.inl (nI g)), some (.inl (nI c)), o4, none], [.inl (nI (sM S)), .inl (nI c)], (I, tk_so J 4 0 (tk_u1 N 1 r), R)) _
    refine dn_if rfl rfl rfl (fun (qq : (nI (sM S)) ≤ (nI c)) => ?_) (fun (qq : ¬ (nI (sM S)) ≤ (nI c)) => ?_)
    · exact absurd qq (nI_ge (by omega) (by omega))
    · show tkDn tm_91 (20, [some (.inr (.inr (4, 0, 0))), some (.inr (.inr (1, b, 0))), some (.inl (nI g)), some (.inl (nI c)), o4, none], [], (I, tk_so J 4 0 (tk_u1 N 1 r), R)) _
      refine dn_run 4 (show tkDn tm_91 (26, [some (.inr (.inr (4, 0, 0))), some (.inr (.inr (1, b, 0))), some (.inl (nI g)), some (.inl (nI c)), o4, none], [.inl (nI g), .inl (nI c), .inr (.inr (4, 0, 4))], (I, tk_so J 4 0 (tk_u1 N 1 r), R)) _ from ?_)
      refine dn_call rfl rfl rfl rfl rfl (sw_cell ?_)
      show tkDn tm_91 (29, [some (.inr (.inr (4, 0, 0))), some (.inr (.inr (1, b, 0))), some (.inl (nI g)), some (.inl (nI c)), o4, none], [.inl (nI (6 * c + g)), .inr (.inr (4, 0, 4))], (I, tk_so J 4 0 (tk_u1 N 1 r), R)) _
      refine dn_run 2 (show (vp_in (nI (6 * c + g)) 96) ∧ tkDn tm_91 (32, [some (.inr (.inr (4, 0, 0))), some (.inr (.inr (1, b, 0))), some (.inl (nI g)), some (.inl (nI c)), some (.inr (.inl (N 4 ((nI (6 * c + g)).toNatClampNeg)))), none], [], (I, tk_so J 4 0 (tk_u1 N 1 r), R)) _ from ⟨vp_in_nI (by omega) (by omega), ?_⟩)
      rw [hv.at (by omega) (by omega)]
      show tkDn tm_91 (32, [some (.inr (.inr (4, 0, 0))), some (.inr (.inr (1, b, 0))), some (.inl (nI g)), some (.inl (nI c)), some (.inr (.inl (v c g))), none], [], (I, tk_so J 4 0 (tk_u1 N 1 r), R)) _
      refine dn_run 3 (show tkDn tm_91 (35, [some (.inr (.inr (4, 0, 0))), some (.inr (.inr (1, b, 0))), some (.inl (nI g)), some (.inl (nI c)), some (.inr (.inl (v c g))), none], [.inl (nI g), .inr (.inr (1, b, 0)), .inl (nI c)], (I, tk_so J 4 0 (tk_u1 N 1 r), R)) _ from ?_)
      refine dn_call rfl rfl rfl rfl rfl (sN_giftTo hP w hg ?_)
      show tkDn tm_91 (38, [some (.inr (.inr (4, 0, 0))), some (.inr (.inr (1, b, 0))), some (.inl (nI g)), some (.inl (nI c)), some (.inr (.inl (v c g))), none], [.inl (nI (se S (sgl S g))), .inl (nI c)], (I, tk_so J 4 0 (tk_u1 N 1 r), R)) _
      refine dn_if rfl rfl rfl (fun (c1 : (nI c) = (nI (se S (sgl S g)))) => ?_) (fun (c1 : ¬ (nI c) = (nI (se S (sgl S g)))) => ?_)
      · show tkDn tm_91 (78, [some (.inr (.inr (4, 0, 0))), some (.inr (.inr (1, b, 0))), some (.inl (nI g)), some (.inl (nI c)), some (.inr (.inl (v c g))), none], [], (I, tk_so J 4 0 (tk_u1 N 1 r), R)) _
        refine dn_run 2 (show tkDn tm_91 (12, [some (.inr (.inr (4, 0, 0))), some (.inr (.inr (1, b, 0))), some (.inl (nI g)), some (.inl ((nI c) + 1)), some (.inr (.inl (v c g))), none], [], (I, tk_so J 4 0 (tk_u1 N 1 r), R)) _ from ?_)
        rw [nI_1]
        exact ih (c + 1) r _ (by omega) (by rw [show tsI S v g (tsO S v e (sM S) g) (c + 1) = tsI S v g (tsO S v e (sM S) g) c from if_neg (fun q => q.1 ((nI_eq (by omega) (by omega)).mp c1))]; exact hr)
      · show tkDn tm_91 (41, [some (.inr (.inr (4, 0, 0))), some (.inr (.inr (1, b, 0))), some (.inl (nI g)), some (.inl (nI c)), some (.inr (.inl (v c g))), none], [], (I, tk_so J 4 0 (tk_u1 N 1 r), R)) _
        refine dn_run 3 (show tkDn tm_91 (47, [some (.inr (.inr (4, 0, 0))), some (.inr (.inr (1, b, 0))), some (.inl (nI g)), some (.inl (nI c)), some (.inr (.inl (v c g))), none], [.inl (lg_cmp (v c g) 4611686018427387904)], (I, tk_so J 4 0 (tk_u1 N 1 r), R)) _ from ?_)
        refine dn_if rfl rfl rfl (fun (c2 : (lg_cmp (v c g) 4611686018427387904) = 0) => ?_) (fun (c2 : ¬ (lg_cmp (v c g) 4611686018427387904) = 0) => ?_)
        · show tkDn tm_91 (78, [some (.inr (.inr (4, 0, 0))), some (.inr (.inr (1, b, 0))), some (.inl (nI g)), some (.inl (nI c)), some (.inr (.inl (v c g))), none], [], (I, tk_so J 4 0 (tk_u1 N 1 r), R)) _
          refine dn_run 2 (show tkDn tm_91 (12, [some (.inr (.inr (4, 0, 0))), some (.inr (.inr (1, b, 0))), some (.inl (nI g)), some (.inl ((nI c) + 1)), some (.inr (.inl (v c g))), none], [], (I, tk_so J 4 0 (tk_u1 N 1 r), R)) _ from ?_)
          rw [nI_1]
          exact ih (c + 1) r _ (by omega) (by rw [show tsI S v g (tsO S v e (sM S) g) (c + 1) = tsI S v g (tsO S v e (sM S) g) c from if_neg (fun q => q.2.1 ((lg_cmp_eq _ _).mp c2))]; exact hr)
        · show tkDn tm_91 (50, [some (.inr (.inr (4, 0, 0))), some (.inr (.inr (1, b, 0))), some (.inl (nI g)), some (.inl (nI c)), some (.inr (.inl (v c g))), none], [], (I, tk_so J 4 0 (tk_u1 N 1 r), R)) _
          refine dn_run 3 (show tkDn tm_91 (54, [some (.inr (.inr (4, 0, 0))), some (.inr (.inr (1, b, 0))), some (.inl (nI g)), some (.inl (nI c)), some (.inr (.inl (v c g))), none], [.inl (nI g), .inr (.inr (1, b, 0)), .inr (.inl (v c g))], (I, tk_so J 4 0 (tk_u1 N 1 r), R)) _ from ?_)
          refine dn_call rfl rfl rfl rfl rfl (sN_giftLow hP w hg ?_)
          show tkDn tm_91 (57, [some (.inr (.inr (4, 0, 0))), some (.inr (.inr (1, b, 0))), some (.inl (nI g)), some (.inl (nI c)), some (.inr (.inl (v c g))), none], [.inl (slo S (sgl S g)), .inr (.inl (v c g))], (I, tk_so J 4 0 (tk_u1 N 1 r), R)) _
          refine dn_run 3 (show tkDn tm_91 (60, [some (.inr (.inr (4, 0, 0))), some (.inr (.inr (1, b, 0))), some (.inl (nI g)), some (.inl (nI c)), some (.inr (.inl (v c g))), none], [.inl (lg_cmp (v c g) (((-(slo S (sgl S g))) : Int32).toInt64))], (I, tk_so J 4 0 (tk_u1 N 1 r), R)) _ from ?_)
          refine dn_if rfl rfl rfl (fun (c3 : (lg_cmp (v c g) (((-(slo S (sgl S g))) : Int32).toInt64)) < 0) => ?_) (fun (c3 : ¬ (lg_cmp (v c g) (((-(slo S (sgl S g))) : Int32).toInt64)) < 0) => ?_)
          · show tkDn tm_91 (78, [some (.inr (.inr (4, 0, 0))), some (.inr (.inr (1, b, 0))), some (.inl (nI g)), some (.inl (nI c)), some (.inr (.inl (v c g))), none], [], (I, tk_so J 4 0 (tk_u1 N 1 r), R)) _
            refine dn_run 2 (show tkDn tm_91 (12, [some (.inr (.inr (4, 0, 0))), some (.inr (.inr (1, b, 0))), some (.inl (nI g)), some (.inl ((nI c) + 1)), some (.inr (.inl (v c g))), none], [], (I, tk_so J 4 0 (tk_u1 N 1 r), R)) _ from ?_)
            rw [nI_1]
            exact ih (c + 1) r _ (by omega) (by rw [show tsI S v g (tsO S v e (sM S) g) (c + 1) = tsI S v g (tsO S v e (sM S) g) c from if_neg (fun q => absurd q.2.2 (Int64.not_le.mpr ((lg_cmp_lt _ _).mp c3)))]; exact hr)
          · show tkDn tm_91 (63, [some (.inr (.inr (4, 0, 0))), some (.inr (.inr (1, b, 0))), some (.inl (nI g)), some (.inl (nI c)), some (.inr (.inl (v c g))), none], [], (I, tk_so J 4 0 (tk_u1 N 1 r), R)) _
            have c3 := Int64.not_lt.mp (fun z => c3 ((lg_cmp_lt _ _).mpr z))
            refine dn_run 5 (show tkDn tm_91 (70, [some (.inr (.inr (4, 0, 0))), some (.inr (.inr (1, b, 0))), some (.inl (nI g)), some (.inl (nI c)), some (.inr (.inl (v c g))), none], [.inl (nI g), .inr (.inr (1, b, 0)), .inl (nI c), .inr (.inr (4, 0, 1))], (I, tk_so J 4 0 (tk_u1 N 1 r), R)) _ from ?_)
            refine dn_call rfl rfl rfl rfl rfl (sN_giftFrom hP w hg ?_)
            show tkDn tm_91 (73, [some (.inr (.inr (4, 0, 0))), some (.inr (.inr (1, b, 0))), some (.inl (nI g)), some (.inl (nI c)), some (.inr (.inl (v c g))), none], [.inl (nI (sf S (sgl S g))), .inl (nI c), .inr (.inr (4, 0, 1))], (I, tk_so J 4 0 (tk_u1 N 1 r), R)) _
            refine dn_run 1 (show tkDn tm_91 (75, [some (.inr (.inr (4, 0, 0))), some (.inr (.inr (1, b, 0))), some (.inl (nI g)), some (.inl (nI c)), some (.inr (.inl (v c g))), none], [.inr (.inl (v c g)), .inl (nI (sf S (sgl S g))), .inl (nI c), .inr (.inr (4, 0, 1))], (I, tk_so J 4 0 (tk_u1 N 1 r), R)) _ from ?_)
            refine dn_call rfl rfl rfl rfl rfl (ss_lower_4_1 (by omega) (by omega) ?_)
            rw [tk_so_so, tk_so_same, tk_u1_u1, tk_u1_same]
            show tkDn tm_91 (78, [some (.inr (.inr (4, 0, 0))), some (.inr (.inr (1, b, 0))), some (.inl (nI g)), some (.inl (nI c)), some (.inr (.inl (v c g))), none], [], (I, tk_so J 4 0 (tk_u1 N 1 (low1 r (16 * c + (sf S (sgl S g))) (v c g))), R)) _
            refine dn_run 2 (show tkDn tm_91 (12, [some (.inr (.inr (4, 0, 0))), some (.inr (.inr (1, b, 0))), some (.inl (nI g)), some (.inl ((nI c) + 1)), some (.inr (.inl (v c g))), none], [], (I, tk_so J 4 0 (tk_u1 N 1 (low1 r (16 * c + (sf S (sgl S g))) (v c g))), R)) _ from ?_)
            rw [nI_1]
            exact ih (c + 1) _ _ (by omega) (by rw [show tsI S v g (tsO S v e (sM S) g) (c + 1) = lowM (tsI S v g (tsO S v e (sM S) g) c) c (sf S (sgl S g)) (v c g) from if_pos ⟨fun z => c1 (by rw [z]), fun z => c2 ((lg_cmp_eq _ _).mpr z), c3⟩]; exact hr.low (by omega) (by omega) (by omega))
set_option maxRecDepth 8000 in
theorem sw_ts_out {I : tkI} {J : tkJ} {R : Nat → Nat} {Q : tkQ} {b : Nat} {S : tkS} (hP : NetP (I 1 b) S) (w : WF S) {e v : tkD} {N : Nat → Nat → Int64} (hv : WRow (N 4) v) (hQ : ∀ r, RowP 16 r (tsO S v e (sM S) (sG S)) → Q none (I, tk_so J 4 0 (tk_u1 N 1 r), R)) : ∀ m g r oc o4, g + m = sG S → RowP 16 r (tsO S v e (sM S) g) → tkDn tm_91 (2, [some (.inr (.inr (4, 0, 0))), some (.inr (.inr (1, b, 0))), some (.inl (nI g)), oc, o4, none], [], (I, tk_so J 4 0 (tk_u1 N 1 r), R)) Q := by
  have hM16 := w.1
  have hL60 := w.2.1
  have hG6 := w.2.2.1
  intro m
  induction m with
  | zero =>
    intro g r oc o4 hg hr
    have hg : g = sG S := by omega
    rw [hg] at hr
    show tkDn tm_91 (2, [some (.inr (.inr (4, 0, 0))), some (.inr (.inr (1, b, 0))), some (.inl (nI g)), oc, o4, none], [], (I, tk_so J 4 0 (tk_u1 N 1 r), R)) _
    refine dn_run 2 (show tkDn tm_91 (4, [some (.inr (.inr (4, 0, 0))), some (.inr (.inr (1, b, 0))), some (.inl (nI g)), oc, o4, none], [.inr (.inr (1, b, 0)), .inl (nI g)], (I, tk_so J 4 0 (tk_u1 N 1 r), R)) _ from ?_)
    refine dn_call rfl rfl rfl rfl rfl (sN_giftCount hP ?_)
    show tkDn tm_91 (7, [some (.inr (.inr (4, 0, 0))), some (.inr (.inr (1, b, 0))), some (.inl (nI g)), oc, o4, none], [.inl (nI (sG S)), .inl (nI g)], (I, tk_so J 4 0 (tk_u1 N 1 r), R)) _
    refine dn_if rfl rfl rfl (fun (qq : (nI (sG S)) ≤ (nI g)) => ?_) (fun (qq : ¬ (nI (sG S)) ≤ (nI g)) => ?_)
    · show tkDn tm_91 (90, [some (.inr (.inr (4, 0, 0))), some (.inr (.inr (1, b, 0))), some (.inl (nI g)), oc, o4, none], [], (I, tk_so J 4 0 (tk_u1 N 1 r), R)) _
      refine dn_ret0 rfl rfl rfl rfl ?_
      exact hQ r hr
    · exact absurd (nI_le (by omega) (by omega)) qq
  | succ m ih =>
    intro g r oc o4 hg hr
    show tkDn tm_91 (2, [some (.inr (.inr (4, 0, 0))), some (.inr (.inr (1, b, 0))), some (.inl (nI g)), oc, o4, none], [], (I, tk_so J 4 0 (tk_u1 N 1 r), R)) _
    refine dn_run 2 (show tkDn tm_91 (4, [some (.inr (.inr (4, 0, 0))), some (.inr (.inr (1, b, 0))), some (.inl (nI g)), oc, o4, none], [.inr (.inr (1, b, 0)), .inl (nI g)], (I, tk_so J 4 0 (tk_u1 N 1 r), R)) _ from ?_)
    refine dn_call rfl rfl rfl rfl rfl (sN_giftCount hP ?_)
    show tkDn tm_91 (7, [some (.inr (.inr (4, 0, 0))), some (.inr (.inr (1, b, 0))), some (.inl (nI g)), oc, o4, none], [.inl (nI (sG S)), .inl (nI g)], (I, tk_so J 4 0 (tk_u1 N 1 r), R)) _
    refine dn_if rfl rfl rfl (fun (qq : (nI (sG S)) ≤ (nI g)) => ?_) (fun (qq : ¬ (nI (sG S)) ≤ (nI g)) => ?_)
    · exact absurd qq (nI_ge (by omega) (by omega))
    · show tkDn tm_91 (10, [some (.inr (.inr (4, 0, 0))), some (.inr (.inr (1, b, 0))), some (.inl (nI g)), oc, o4, none], [], (I, tk_so J 4 0 (tk_u1 N 1 r), R)) _
      refine dn_run 2 (show tkDn tm_91 (12, [some (.inr (.inr (4, 0, 0))), some (.inr (.inr (1, b, 0))), some (.inl (nI g)), some (.inl 0), o4, none], [], (I, tk_so J 4 0 (tk_u1 N 1 r), R)) _ from ?_)
      refine sw_ts_in hP w hv (by omega) (fun r2 o4x hr2 => ?_) (sM S) 0 r _ (Nat.zero_add _) hr
      show tkDn tm_91 (84, [some (.inr (.inr (4, 0, 0))), some (.inr (.inr (1, b, 0))), some (.inl (nI g)), some (.inl (nI (sM S))), o4x, none], [], (I, tk_so J 4 0 (tk_u1 N 1 r2), R)) _
      refine dn_run 2 (show tkDn tm_91 (2, [some (.inr (.inr (4, 0, 0))), some (.inr (.inr (1, b, 0))), some (.inl ((nI g) + 1)), some (.inl (nI (sM S))), o4x, none], [], (I, tk_so J 4 0 (tk_u1 N 1 r2), R)) _ from ?_)
      rw [nI_1]
      exact ih (g + 1) r2 _ _ (by omega) hr2
set_option maxRecDepth 8000 in
theorem sw_turnShort {I : tkI} {J : tkJ} {R : Nat → Nat} {Q : tkQ} {b : Nat} {S : tkS} (hP : NetP (I 1 b) S) (w : WF S) {e v : tkD} {N : Nat → Nat → Int64} (he : RowP 16 (N 1) e) (hv : WRow (N 4) v) (hQ : ∀ N2, RowP 16 (N2 1) (tsO S v e (sM S) (sG S)) → (∀ s, s ≠ 1 → N2 s = N s) → Q none (I, tk_so J 4 0 N2, R)) : tkDn tm_91 (0, [some (.inr (.inr (4, 0, 0))), some (.inr (.inr (1, b, 0))), none, none, none, none], [], (I, tk_so J 4 0 N, R)) Q := by
  refine dn_run 2 (show tkDn tm_91 (2, [some (.inr (.inr (4, 0, 0))), some (.inr (.inr (1, b, 0))), some (.inl 0), none, none, none], [], (I, tk_so J 4 0 N, R)) _ from ?_)
  have key := sw_ts_out (J := J) (N := N) (R := R) (Q := Q) (e := e) (v := v) hP w hv (fun r hr => hQ _ (by rw [tk_u1_same]; exact hr) (fun s h1 => tk_u1_ne h1)) (sG S) 0 (N 1) none none (Nat.zero_add _) he
  rw [tk_u1_id] at key
  exact key
set_option maxRecDepth 8000 in
theorem sw_ce_in {I : tkI} {J : tkJ} {R : Nat → Nat} {Q : tkQ} {b : Nat} {S : tkS} (hP : NetP (I 1 b) S) (w : WF S) {e q : tkD} {N : Nat → Nat → Int64} (hq : RowP 16 (N 3) q) {g : Nat} (hg : g < sG S) (hK : ∀ r o4, RowP 16 r (ceI S q g (ceO S q e (sM S) g) (sM S)) → tkDn tm_92 (82, [some (.inr (.inr (4, 0, 0))), some (.inr (.inr (1, b, 0))), some (.inl (nI g)), some (.inl (nI (sM S))), o4, none], [], (I, tk_so J 4 0 (tk_u1 N 1 r), R)) Q) : ∀ m c r o4, c + m = sM S → RowP 16 r (ceI S q g (ceO S q e (sM S) g) c) → tkDn tm_92 (23, [some (.inr (.inr (4, 0, 0))), some (.inr (.inr (1, b, 0))), some (.inl (nI g)), some (.inl (nI c)), o4, none], [], (I, tk_so J 4 0 (tk_u1 N 1 r), R)) Q := by
  have hM16 := w.1
  have hL60 := w.2.1
  have hG6 := w.2.2.1
  have hgl := w.gl hg
  have hf := w.fM hgl
  have he_ := w.eM hgl
  intro m
  induction m with
  | zero =>
    intro c r o4 hc hr
    have hc : c = sM S := by omega
    subst hc
    show tkDn tm_92 (23, [some (.inr (.inr (4, 0, 0))), some (.inr (.inr (1, b, 0))), some (.inl (nI g)), some (.inl (nI (sM S))), o4, none], [], (I, tk_so J 4 0 (tk_u1 N 1 r), R)) _
    refine dn_run 2 (show tkDn tm_92 (25, [some (.inr (.inr (4, 0, 0))), some (.inr (.inr (1, b, 0))), some (.inl (nI g)), some (.inl (nI (sM S))), o4, none], [.inr (.inr (1, b, 0)), .inl (nI (sM S))], (I, tk_so J 4 0 (tk_u1 N 1 r), R)) _ from ?_)
    refine dn_call rfl rfl rfl rfl rfl (sN_momentCount hP ?_)
    show tkDn tm_92 (28, [some (.inr (.inr (4, 0, 0))), some (.inr (.inr (1, b, 0))), some (.inl (nI g)), some (.inl (nI (sM S))), o4, none], [.inl (nI (sM S)), .inl (nI (sM S))], (I, tk_so J 4 0 (tk_u1 N 1 r), R)) _
    refine dn_if rfl rfl rfl (fun (qq : (nI (sM S)) ≤ (nI (sM S))) => ?_) (fun (qq : ¬ (nI (sM S)) ≤ (nI (sM S))) => ?_)
    · show tkDn tm_92 (82, [some (.inr (.inr (4, 0, 0))), some (.inr (.inr (1, b, 0))), some (.inl (nI g)), some (.inl (nI (sM S))), o4, none], [], (I, tk_so J 4 0 (tk_u1 N 1 r), R)) _
      exact hK r _ hr
    · exact absurd (nI_le (by omega) (by omega)) qq
  | succ m ih =>
    intro c r o4 hc hr
    show tkDn tm_92 (23, [some (.inr (.inr (4, 0, 0))), some (.inr (.inr (1, b, 0))), some (.inl (nI g)), some (.inl (nI c)), o4, none], [], (I, tk_so J 4 0 (tk_u1 N 1 r), R)) _
    refine dn_run 2 (show tkDn tm_92 (25, [some (.inr (.inr (4, 0, 0))), some (.inr (.inr (1, b, 0))), some (.inl (nI g)), some (.inl (nI c)), o4, none], [.inr (.inr (1, b, 0)), .inl (nI c)], (I, tk_so J 4 0 (tk_u1 N 1 r), R)) _ from ?_)
    refine dn_call rfl rfl rfl rfl rfl (sN_momentCount hP ?_)
    show tkDn tm_92 (28, [some (.inr (.inr (4, 0, 0))), some (.inr (.inr (1, b, 0))), some (.inl (nI g)), some (.inl (nI c)), o4, none], [.inl (nI (sM S)), .inl (nI c)], (I, tk_so J 4 0 (tk_u1 N 1 r), R)) _
    refine dn_if rfl rfl rfl (fun (qq : (nI (sM S)) ≤ (nI c)) => ?_) (fun (qq : ¬ (nI (sM S)) ≤ (nI c)) => ?_)
    · exact absurd qq (nI_ge (by omega) (by omega))
    · show tkDn tm_92 (31, [some (.inr (.inr (4, 0, 0))), some (.inr (.inr (1, b, 0))), some (.inl (nI g)), some (.inl (nI c)), o4, none], [], (I, tk_so J 4 0 (tk_u1 N 1 r), R)) _
      refine dn_run 4 (show tkDn tm_92 (37, [some (.inr (.inr (4, 0, 0))), some (.inr (.inr (1, b, 0))), some (.inl (nI g)), some (.inl (nI c)), o4, none], [.inl (nI g), .inr (.inr (1, b, 0)), .inr (.inr (4, 0, 3))], (I, tk_so J 4 0 (tk_u1 N 1 r), R)) _ from ?_)
      refine dn_call rfl rfl rfl rfl rfl (sN_giftTo hP w hg ?_)
      show tkDn tm_92 (40, [some (.inr (.inr (4, 0, 0))), some (.inr (.inr (1, b, 0))), some (.inl (nI g)), some (.inl (nI c)), o4, none], [.inl (nI (se S (sgl S g))), .inr (.inr (4, 0, 3))], (I, tk_so J 4 0 (tk_u1 N 1 r), R)) _
      refine dn_run 1 (show tkDn tm_92 (41, [some (.inr (.inr (4, 0, 0))), some (.inr (.inr (1, b, 0))), some (.inl (nI g)), some (.inl (nI c)), o4, none], [.inl (nI c), .inl (nI (se S (sgl S g))), .inr (.inr (4, 0, 3))], (I, tk_so J 4 0 (tk_u1 N 1 r), R)) _ from ?_)
      refine dn_call rfl rfl rfl rfl rfl (ss_cell ?_)
      show tkDn tm_92 (44, [some (.inr (.inr (4, 0, 0))), some (.inr (.inr (1, b, 0))), some (.inl (nI g)), some (.inl (nI c)), o4, none], [.inl (nI (16 * se S (sgl S g) + c)), .inr (.inr (4, 0, 3))], (I, tk_so J 4 0 (tk_u1 N 1 r), R)) _
      refine dn_run 2 (show (vp_in (nI (16 * se S (sgl S g) + c)) 256) ∧ tkDn tm_92 (47, [some (.inr (.inr (4, 0, 0))), some (.inr (.inr (1, b, 0))), some (.inl (nI g)), some (.inl (nI c)), some (.inr (.inl (N 3 ((nI (16 * se S (sgl S g) + c)).toNatClampNeg)))), none], [], (I, tk_so J 4 0 (tk_u1 N 1 r), R)) _ from ⟨vp_in_nI (by omega) (by omega), ?_⟩)
      rw [hq.at (by omega) (by omega) (by omega)]
      show tkDn tm_92 (47, [some (.inr (.inr (4, 0, 0))), some (.inr (.inr (1, b, 0))), some (.inl (nI g)), some (.inl (nI c)), some (.inr (.inl (q (se S (sgl S g)) c))), none], [], (I, tk_so J 4 0 (tk_u1 N 1 r), R)) _
      refine dn_run 3 (show tkDn tm_92 (51, [some (.inr (.inr (4, 0, 0))), some (.inr (.inr (1, b, 0))), some (.inl (nI g)), some (.inl (nI c)), some (.inr (.inl (q (se S (sgl S g)) c))), none], [.inl (lg_cmp (q (se S (sgl S g)) c) 0)], (I, tk_so J 4 0 (tk_u1 N 1 r), R)) _ from ?_)
      refine dn_if rfl rfl rfl (fun (c1 : 0 ≤ (lg_cmp (q (se S (sgl S g)) c) 0)) => ?_) (fun (c1 : ¬ 0 ≤ (lg_cmp (q (se S (sgl S g)) c) 0)) => ?_)
      · show tkDn tm_92 (76, [some (.inr (.inr (4, 0, 0))), some (.inr (.inr (1, b, 0))), some (.inl (nI g)), some (.inl (nI c)), some (.inr (.inl (q (se S (sgl S g)) c))), none], [], (I, tk_so J 4 0 (tk_u1 N 1 r), R)) _
        refine dn_run 2 (show tkDn tm_92 (23, [some (.inr (.inr (4, 0, 0))), some (.inr (.inr (1, b, 0))), some (.inl (nI g)), some (.inl ((nI c) + 1)), some (.inr (.inl (q (se S (sgl S g)) c))), none], [], (I, tk_so J 4 0 (tk_u1 N 1 r), R)) _ from ?_)
        rw [nI_1]
        exact ih (c + 1) r _ (by omega) (by rw [show ceI S q g (ceO S q e (sM S) g) (c + 1) = ceI S q g (ceO S q e (sM S) g) c from if_neg (Int64.not_lt.mpr ((lg_cmp_ge _ _).mp c1))]; exact hr)
      · show tkDn tm_92 (54, [some (.inr (.inr (4, 0, 0))), some (.inr (.inr (1, b, 0))), some (.inl (nI g)), some (.inl (nI c)), some (.inr (.inl (q (se S (sgl S g)) c))), none], [], (I, tk_so J 4 0 (tk_u1 N 1 r), R)) _
        have c1 := Int64.not_le.mp (fun z => c1 ((lg_cmp_ge _ _).mpr z))
        refine dn_run 4 (show tkDn tm_92 (60, [some (.inr (.inr (4, 0, 0))), some (.inr (.inr (1, b, 0))), some (.inl (nI g)), some (.inl (nI c)), some (.inr (.inl (q (se S (sgl S g)) c))), none], [.inl (nI g), .inr (.inr (1, b, 0)), .inr (.inr (4, 0, 1))], (I, tk_so J 4 0 (tk_u1 N 1 r), R)) _ from ?_)
        refine dn_call rfl rfl rfl rfl rfl (sN_giftFrom hP w hg ?_)
        show tkDn tm_92 (63, [some (.inr (.inr (4, 0, 0))), some (.inr (.inr (1, b, 0))), some (.inl (nI g)), some (.inl (nI c)), some (.inr (.inl (q (se S (sgl S g)) c))), none], [.inl (nI (sf S (sgl S g))), .inr (.inr (4, 0, 1))], (I, tk_so J 4 0 (tk_u1 N 1 r), R)) _
        refine dn_run 3 (show tkDn tm_92 (66, [some (.inr (.inr (4, 0, 0))), some (.inr (.inr (1, b, 0))), some (.inl (nI g)), some (.inl (nI c)), some (.inr (.inl (q (se S (sgl S g)) c))), none], [.inl (nI g), .inr (.inr (1, b, 0)), .inl (nI c), .inl (nI (sf S (sgl S g))), .inr (.inr (4, 0, 1))], (I, tk_so J 4 0 (tk_u1 N 1 r), R)) _ from ?_)
        refine dn_call rfl rfl rfl rfl rfl (sN_giftLow hP w hg ?_)
        show tkDn tm_92 (69, [some (.inr (.inr (4, 0, 0))), some (.inr (.inr (1, b, 0))), some (.inl (nI g)), some (.inl (nI c)), some (.inr (.inl (q (se S (sgl S g)) c))), none], [.inl (slo S (sgl S g)), .inl (nI c), .inl (nI (sf S (sgl S g))), .inr (.inr (4, 0, 1))], (I, tk_so J 4 0 (tk_u1 N 1 r), R)) _
        refine dn_run 3 (show tkDn tm_92 (73, [some (.inr (.inr (4, 0, 0))), some (.inr (.inr (1, b, 0))), some (.inl (nI g)), some (.inl (nI c)), some (.inr (.inl (q (se S (sgl S g)) c))), none], [.inr (.inl ((((slo S (sgl S g)) : Int32).toInt64) + (q (se S (sgl S g)) c))), .inl (nI c), .inl (nI (sf S (sgl S g))), .inr (.inr (4, 0, 1))], (I, tk_so J 4 0 (tk_u1 N 1 r), R)) _ from ?_)
        refine dn_call rfl rfl rfl rfl rfl (ss_lower_4_1 (by omega) (by omega) ?_)
        rw [tk_so_so, tk_so_same, tk_u1_u1, tk_u1_same]
        show tkDn tm_92 (76, [some (.inr (.inr (4, 0, 0))), some (.inr (.inr (1, b, 0))), some (.inl (nI g)), some (.inl (nI c)), some (.inr (.inl (q (se S (sgl S g)) c))), none], [], (I, tk_so J 4 0 (tk_u1 N 1 (low1 r (16 * (sf S (sgl S g)) + c) ((slo S (sgl S g)).toInt64 + q (se S (sgl S g)) c))), R)) _
        refine dn_run 2 (show tkDn tm_92 (23, [some (.inr (.inr (4, 0, 0))), some (.inr (.inr (1, b, 0))), some (.inl (nI g)), some (.inl ((nI c) + 1)), some (.inr (.inl (q (se S (sgl S g)) c))), none], [], (I, tk_so J 4 0 (tk_u1 N 1 (low1 r (16 * (sf S (sgl S g)) + c) ((slo S (sgl S g)).toInt64 + q (se S (sgl S g)) c))), R)) _ from ?_)
        rw [nI_1]
        exact ih (c + 1) _ _ (by omega) (by rw [show ceI S q g (ceO S q e (sM S) g) (c + 1) = lowM (ceI S q g (ceO S q e (sM S) g) c) (sf S (sgl S g)) c ((slo S (sgl S g)).toInt64 + q (se S (sgl S g)) c) from if_pos c1]; exact hr.low (by omega) (by omega) (by omega))
set_option maxRecDepth 8000 in
theorem sw_ce_out {I : tkI} {J : tkJ} {R : Nat → Nat} {Q : tkQ} {b : Nat} {S : tkS} (hP : NetP (I 1 b) S) (w : WF S) {e q : tkD} {N : Nat → Nat → Int64} (hq : RowP 16 (N 3) q) (hQ : ∀ r, RowP 16 r (ceO S q e (sM S) (sG S)) → Q none (I, tk_so J 4 0 (tk_u1 N 1 r), R)) : ∀ m g r oc o4, g + m = sG S → RowP 16 r (ceO S q e (sM S) g) → tkDn tm_92 (13, [some (.inr (.inr (4, 0, 0))), some (.inr (.inr (1, b, 0))), some (.inl (nI g)), oc, o4, none], [], (I, tk_so J 4 0 (tk_u1 N 1 r), R)) Q := by
  have hM16 := w.1
  have hL60 := w.2.1
  have hG6 := w.2.2.1
  intro m
  induction m with
  | zero =>
    intro g r oc o4 hg hr
    have hg : g = sG S := by omega
    rw [hg] at hr
    show tkDn tm_92 (13, [some (.inr (.inr (4, 0, 0))), some (.inr (.inr (1, b, 0))), some (.inl (nI g)), oc, o4, none], [], (I, tk_so J 4 0 (tk_u1 N 1 r), R)) _
    refine dn_run 2 (show tkDn tm_92 (15, [some (.inr (.inr (4, 0, 0))), some (.inr (.inr (1, b, 0))), some (.inl (nI g)), oc, o4, none], [.inr (.inr (1, b, 0)), .inl (nI g)], (I, tk_so J 4 0 (tk_u1 N 1 r), R)) _ from ?_)
    refine dn_call rfl rfl rfl rfl rfl (sN_giftCount hP ?_)
    show tkDn tm_92 (18, [some (.inr (.inr (4, 0, 0))), some (.inr (.inr (1, b, 0))), some (.inl (nI g)), oc, o4, none], [.inl (nI (sG S)), .inl (nI g)], (I, tk_so J 4 0 (tk_u1 N 1 r), R)) _
    refine dn_if rfl rfl rfl (fun (qq : (nI (sG S)) ≤ (nI g)) => ?_) (fun (qq : ¬ (nI (sG S)) ≤ (nI g)) => ?_)
    · show tkDn tm_92 (88, [some (.inr (.inr (4, 0, 0))), some (.inr (.inr (1, b, 0))), some (.inl (nI g)), oc, o4, none], [], (I, tk_so J 4 0 (tk_u1 N 1 r), R)) _
      refine dn_ret0 rfl rfl rfl rfl ?_
      exact hQ r hr
    · exact absurd (nI_le (by omega) (by omega)) qq
  | succ m ih =>
    intro g r oc o4 hg hr
    show tkDn tm_92 (13, [some (.inr (.inr (4, 0, 0))), some (.inr (.inr (1, b, 0))), some (.inl (nI g)), oc, o4, none], [], (I, tk_so J 4 0 (tk_u1 N 1 r), R)) _
    refine dn_run 2 (show tkDn tm_92 (15, [some (.inr (.inr (4, 0, 0))), some (.inr (.inr (1, b, 0))), some (.inl (nI g)), oc, o4, none], [.inr (.inr (1, b, 0)), .inl (nI g)], (I, tk_so J 4 0 (tk_u1 N 1 r), R)) _ from ?_)
    refine dn_call rfl rfl rfl rfl rfl (sN_giftCount hP ?_)
    show tkDn tm_92 (18, [some (.inr (.inr (4, 0, 0))), some (.inr (.inr (1, b, 0))), some (.inl (nI g)), oc, o4, none], [.inl (nI (sG S)), .inl (nI g)], (I, tk_so J 4 0 (tk_u1 N 1 r), R)) _
    refine dn_if rfl rfl rfl (fun (qq : (nI (sG S)) ≤ (nI g)) => ?_) (fun (qq : ¬ (nI (sG S)) ≤ (nI g)) => ?_)
    · exact absurd qq (nI_ge (by omega) (by omega))
    · show tkDn tm_92 (21, [some (.inr (.inr (4, 0, 0))), some (.inr (.inr (1, b, 0))), some (.inl (nI g)), oc, o4, none], [], (I, tk_so J 4 0 (tk_u1 N 1 r), R)) _
      refine dn_run 2 (show tkDn tm_92 (23, [some (.inr (.inr (4, 0, 0))), some (.inr (.inr (1, b, 0))), some (.inl (nI g)), some (.inl 0), o4, none], [], (I, tk_so J 4 0 (tk_u1 N 1 r), R)) _ from ?_)
      refine sw_ce_in hP w hq (by omega) (fun r2 o4x hr2 => ?_) (sM S) 0 r _ (Nat.zero_add _) hr
      show tkDn tm_92 (82, [some (.inr (.inr (4, 0, 0))), some (.inr (.inr (1, b, 0))), some (.inl (nI g)), some (.inl (nI (sM S))), o4x, none], [], (I, tk_so J 4 0 (tk_u1 N 1 r2), R)) _
      refine dn_run 2 (show tkDn tm_92 (13, [some (.inr (.inr (4, 0, 0))), some (.inr (.inr (1, b, 0))), some (.inl ((nI g) + 1)), some (.inl (nI (sM S))), o4x, none], [], (I, tk_so J 4 0 (tk_u1 N 1 r2), R)) _ from ?_)
      rw [nI_1]
      exact ih (g + 1) r2 _ _ (by omega) hr2
set_option maxRecDepth 8000 in
theorem sw_carryEdges {I : tkI} {J : tkJ} {R : Nat → Nat} {Q : tkQ} {b : Nat} {S : tkS} (hP : NetP (I 1 b) S) (w : WF S) {e : tkD} {N : Nat → Nat → Int64} (he : RowP 16 (N 1) e) (hQ : ∀ N2, RowP 16 (N2 1) (ceO S e e (sM S) (sG S)) → (∀ s, s ≠ 1 → s ≠ 3 → N2 s = N s) → Q none (I, tk_so J 4 0 N2, R)) : tkDn tm_92 (0, [some (.inr (.inr (4, 0, 0))), some (.inr (.inr (1, b, 0))), none, none, none, none], [], (I, tk_so J 4 0 N, R)) Q := by
  refine dn_run 4 (show tkDn tm_92 (8, [some (.inr (.inr (4, 0, 0))), some (.inr (.inr (1, b, 0))), none, none, none, none], [.inr (.inr (4, 0, 3)), .inr (.inr (4, 0, 1))], (I, tk_so J 4 0 N, R)) _ from ?_)
  refine dn_call rfl rfl rfl rfl rfl (sw_copy_1_3 (fun r hr => ?_))
  rw [tk_so_so, tk_so_same]
  rw [tk_so_same] at hr
  show tkDn tm_92 (11, [some (.inr (.inr (4, 0, 0))), some (.inr (.inr (1, b, 0))), none, none, none, none], [], (I, tk_so J 4 0 (tk_u1 N 3 r), R)) _
  refine dn_run 2 (show tkDn tm_92 (13, [some (.inr (.inr (4, 0, 0))), some (.inr (.inr (1, b, 0))), some (.inl 0), none, none, none], [], (I, tk_so J 4 0 (tk_u1 N 3 r), R)) _ from ?_)
  have key := sw_ce_out (J := J) (N := tk_u1 N 3 r) (R := R) (Q := Q) (e := e) (q := e) hP w (by rw [tk_u1_same]; exact he.cp hr) (fun r2 hr2 => hQ _ (by rw [tk_u1_same]; exact hr2) (fun s h1 h3 => by rw [tk_u1_ne h1, tk_u1_ne h3])) (sG S) 0 (N 1) none none (Nat.zero_add _) he
  rw [show tk_u1 (tk_u1 N 3 r) 1 (N 1) = tk_u1 N 3 r by rw [show N 1 = tk_u1 N 3 r 1 from (tk_u1_ne (by decide)).symm, tk_u1_id]] at key
  exact key
set_option maxRecDepth 8000 in
theorem sw_cg_in {I : tkI} {J : tkJ} {R : Nat → Nat} {Q : tkQ} {b : Nat} {S : tkS} (hP : NetP (I 1 b) S) (w : WF S) {u v : tkD} {N : Nat → Nat → Int64} (hu : WRow (N 6) u) {g : Nat} (hg : g < sG S) (hK : ∀ r o4 o6, WRow r (cgI S u g (cgO S u v (sG S) g) (sG S)) → tkDn tm_93 (102, [some (.inr (.inr (4, 0, 0))), some (.inr (.inr (1, b, 0))), some (.inl (nI g)), some (.inl (nI (sG S))), o4, none, o6], [], (I, tk_so J 4 0 (tk_u1 N 4 r), R)) Q) : ∀ m c r o4 o6, c + m = sG S → WRow r (cgI S u g (cgO S u v (sG S) g) c) → tkDn tm_93 (23, [some (.inr (.inr (4, 0, 0))), some (.inr (.inr (1, b, 0))), some (.inl (nI g)), some (.inl (nI c)), o4, none, o6], [], (I, tk_so J 4 0 (tk_u1 N 4 r), R)) Q := by
  have hM16 := w.1
  have hL60 := w.2.1
  have hG6 := w.2.2.1
  have hgl := w.gl hg
  have hf := w.fM hgl
  have he_ := w.eM hgl
  intro m
  induction m with
  | zero =>
    intro c r o4 o6 hc hr
    have hc : c = sG S := by omega
    subst hc
    show tkDn tm_93 (23, [some (.inr (.inr (4, 0, 0))), some (.inr (.inr (1, b, 0))), some (.inl (nI g)), some (.inl (nI (sG S))), o4, none, o6], [], (I, tk_so J 4 0 (tk_u1 N 4 r), R)) _
    refine dn_run 2 (show tkDn tm_93 (25, [some (.inr (.inr (4, 0, 0))), some (.inr (.inr (1, b, 0))), some (.inl (nI g)), some (.inl (nI (sG S))), o4, none, o6], [.inr (.inr (1, b, 0)), .inl (nI (sG S))], (I, tk_so J 4 0 (tk_u1 N 4 r), R)) _ from ?_)
    refine dn_call rfl rfl rfl rfl rfl (sN_giftCount hP ?_)
    show tkDn tm_93 (28, [some (.inr (.inr (4, 0, 0))), some (.inr (.inr (1, b, 0))), some (.inl (nI g)), some (.inl (nI (sG S))), o4, none, o6], [.inl (nI (sG S)), .inl (nI (sG S))], (I, tk_so J 4 0 (tk_u1 N 4 r), R)) _
    refine dn_if rfl rfl rfl (fun (qq : (nI (sG S)) ≤ (nI (sG S))) => ?_) (fun (qq : ¬ (nI (sG S)) ≤ (nI (sG S))) => ?_)
    · show tkDn tm_93 (102, [some (.inr (.inr (4, 0, 0))), some (.inr (.inr (1, b, 0))), some (.inl (nI g)), some (.inl (nI (sG S))), o4, none, o6], [], (I, tk_so J 4 0 (tk_u1 N 4 r), R)) _
      exact hK r _ _ hr
    · exact absurd (nI_le (by omega) (by omega)) qq
  | succ m ih =>
    intro c r o4 o6 hc hr
    show tkDn tm_93 (23, [some (.inr (.inr (4, 0, 0))), some (.inr (.inr (1, b, 0))), some (.inl (nI g)), some (.inl (nI c)), o4, none, o6], [], (I, tk_so J 4 0 (tk_u1 N 4 r), R)) _
    refine dn_run 2 (show tkDn tm_93 (25, [some (.inr (.inr (4, 0, 0))), some (.inr (.inr (1, b, 0))), some (.inl (nI g)), some (.inl (nI c)), o4, none, o6], [.inr (.inr (1, b, 0)), .inl (nI c)], (I, tk_so J 4 0 (tk_u1 N 4 r), R)) _ from ?_)
    refine dn_call rfl rfl rfl rfl rfl (sN_giftCount hP ?_)
    show tkDn tm_93 (28, [some (.inr (.inr (4, 0, 0))), some (.inr (.inr (1, b, 0))), some (.inl (nI g)), some (.inl (nI c)), o4, none, o6], [.inl (nI (sG S)), .inl (nI c)], (I, tk_so J 4 0 (tk_u1 N 4 r), R)) _
    refine dn_if rfl rfl rfl (fun (qq : (nI (sG S)) ≤ (nI c)) => ?_) (fun (qq : ¬ (nI (sG S)) ≤ (nI c)) => ?_)
    · exact absurd qq (nI_ge (by omega) (by omega))
    · show tkDn tm_93 (31, [some (.inr (.inr (4, 0, 0))), some (.inr (.inr (1, b, 0))), some (.inl (nI g)), some (.inl (nI c)), o4, none, o6], [], (I, tk_so J 4 0 (tk_u1 N 4 r), R)) _
      refine dn_run 4 (show tkDn tm_93 (37, [some (.inr (.inr (4, 0, 0))), some (.inr (.inr (1, b, 0))), some (.inl (nI g)), some (.inl (nI c)), o4, none, o6], [.inl (nI g), .inr (.inr (1, b, 0)), .inr (.inr (4, 0, 6))], (I, tk_so J 4 0 (tk_u1 N 4 r), R)) _ from ?_)
      refine dn_call rfl rfl rfl rfl rfl (sN_giftTo hP w hg ?_)
      show tkDn tm_93 (40, [some (.inr (.inr (4, 0, 0))), some (.inr (.inr (1, b, 0))), some (.inl (nI g)), some (.inl (nI c)), o4, none, o6], [.inl (nI (se S (sgl S g))), .inr (.inr (4, 0, 6))], (I, tk_so J 4 0 (tk_u1 N 4 r), R)) _
      refine dn_run 1 (show tkDn tm_93 (41, [some (.inr (.inr (4, 0, 0))), some (.inr (.inr (1, b, 0))), some (.inl (nI g)), some (.inl (nI c)), o4, none, o6], [.inl (nI c), .inl (nI (se S (sgl S g))), .inr (.inr (4, 0, 6))], (I, tk_so J 4 0 (tk_u1 N 4 r), R)) _ from ?_)
      refine dn_call rfl rfl rfl rfl rfl (sw_cell ?_)
      show tkDn tm_93 (44, [some (.inr (.inr (4, 0, 0))), some (.inr (.inr (1, b, 0))), some (.inl (nI g)), some (.inl (nI c)), o4, none, o6], [.inl (nI (6 * se S (sgl S g) + c)), .inr (.inr (4, 0, 6))], (I, tk_so J 4 0 (tk_u1 N 4 r), R)) _
      refine dn_run 2 (show (vp_in (nI (6 * se S (sgl S g) + c)) 96) ∧ tkDn tm_93 (47, [some (.inr (.inr (4, 0, 0))), some (.inr (.inr (1, b, 0))), some (.inl (nI g)), some (.inl (nI c)), some (.inr (.inl (N 6 ((nI (6 * se S (sgl S g) + c)).toNatClampNeg)))), none, o6], [], (I, tk_so J 4 0 (tk_u1 N 4 r), R)) _ from ⟨vp_in_nI (by omega) (by omega), ?_⟩)
      rw [hu.at (by omega) (by omega)]
      show tkDn tm_93 (47, [some (.inr (.inr (4, 0, 0))), some (.inr (.inr (1, b, 0))), some (.inl (nI g)), some (.inl (nI c)), some (.inr (.inl (u (se S (sgl S g)) c))), none, o6], [], (I, tk_so J 4 0 (tk_u1 N 4 r), R)) _
      refine dn_run 2 (show tkDn tm_93 (49, [some (.inr (.inr (4, 0, 0))), some (.inr (.inr (1, b, 0))), some (.inl (nI g)), some (.inl (nI c)), some (.inr (.inl (u (se S (sgl S g)) c))), none, o6], [.inl (nI g), .inl (nI c)], (I, tk_so J 4 0 (tk_u1 N 4 r), R)) _ from ?_)
      refine dn_if rfl rfl rfl (fun (c1 : (nI c) = (nI g)) => ?_) (fun (c1 : ¬ (nI c) = (nI g)) => ?_)
      · show tkDn tm_93 (96, [some (.inr (.inr (4, 0, 0))), some (.inr (.inr (1, b, 0))), some (.inl (nI g)), some (.inl (nI c)), some (.inr (.inl (u (se S (sgl S g)) c))), none, o6], [], (I, tk_so J 4 0 (tk_u1 N 4 r), R)) _
        refine dn_run 2 (show tkDn tm_93 (23, [some (.inr (.inr (4, 0, 0))), some (.inr (.inr (1, b, 0))), some (.inl (nI g)), some (.inl ((nI c) + 1)), some (.inr (.inl (u (se S (sgl S g)) c))), none, o6], [], (I, tk_so J 4 0 (tk_u1 N 4 r), R)) _ from ?_)
        rw [nI_1]
        exact ih (c + 1) r _ _ (by omega) (by rw [show cgI S u g (cgO S u v (sG S) g) (c + 1) = cgI S u g (cgO S u v (sG S) g) c from if_neg (fun q => q.1 ((nI_eq (by omega) (by omega)).mp c1))]; exact hr)
      · show tkDn tm_93 (52, [some (.inr (.inr (4, 0, 0))), some (.inr (.inr (1, b, 0))), some (.inl (nI g)), some (.inl (nI c)), some (.inr (.inl (u (se S (sgl S g)) c))), none, o6], [], (I, tk_so J 4 0 (tk_u1 N 4 r), R)) _
        refine dn_run 3 (show tkDn tm_93 (56, [some (.inr (.inr (4, 0, 0))), some (.inr (.inr (1, b, 0))), some (.inl (nI g)), some (.inl (nI c)), some (.inr (.inl (u (se S (sgl S g)) c))), none, o6], [.inl (lg_cmp (u (se S (sgl S g)) c) 0)], (I, tk_so J 4 0 (tk_u1 N 4 r), R)) _ from ?_)
        refine dn_if rfl rfl rfl (fun (c2 : 0 ≤ (lg_cmp (u (se S (sgl S g)) c) 0)) => ?_) (fun (c2 : ¬ 0 ≤ (lg_cmp (u (se S (sgl S g)) c) 0)) => ?_)
        · show tkDn tm_93 (96, [some (.inr (.inr (4, 0, 0))), some (.inr (.inr (1, b, 0))), some (.inl (nI g)), some (.inl (nI c)), some (.inr (.inl (u (se S (sgl S g)) c))), none, o6], [], (I, tk_so J 4 0 (tk_u1 N 4 r), R)) _
          refine dn_run 2 (show tkDn tm_93 (23, [some (.inr (.inr (4, 0, 0))), some (.inr (.inr (1, b, 0))), some (.inl (nI g)), some (.inl ((nI c) + 1)), some (.inr (.inl (u (se S (sgl S g)) c))), none, o6], [], (I, tk_so J 4 0 (tk_u1 N 4 r), R)) _ from ?_)
          rw [nI_1]
          exact ih (c + 1) r _ _ (by omega) (by rw [show cgI S u g (cgO S u v (sG S) g) (c + 1) = cgI S u g (cgO S u v (sG S) g) c from if_neg (fun q => absurd q.2 (Int64.not_lt.mpr ((lg_cmp_ge _ _).mp c2)))]; exact hr)
        · show tkDn tm_93 (59, [some (.inr (.inr (4, 0, 0))), some (.inr (.inr (1, b, 0))), some (.inl (nI g)), some (.inl (nI c)), some (.inr (.inl (u (se S (sgl S g)) c))), none, o6], [], (I, tk_so J 4 0 (tk_u1 N 4 r), R)) _
          have c2 := Int64.not_le.mp (fun z => c2 ((lg_cmp_ge _ _).mpr z))
          refine dn_run 2 (show tkDn tm_93 (61, [some (.inr (.inr (4, 0, 0))), some (.inr (.inr (1, b, 0))), some (.inl (nI g)), some (.inl (nI c)), some (.inr (.inl (u (se S (sgl S g)) c))), none, o6], [.inl (nI g), .inr (.inr (1, b, 0))], (I, tk_so J 4 0 (tk_u1 N 4 r), R)) _ from ?_)
          refine dn_call rfl rfl rfl rfl rfl (sN_giftFrom hP w hg ?_)
          show tkDn tm_93 (64, [some (.inr (.inr (4, 0, 0))), some (.inr (.inr (1, b, 0))), some (.inl (nI g)), some (.inl (nI c)), some (.inr (.inl (u (se S (sgl S g)) c))), none, o6], [.inl (nI (sf S (sgl S g)))], (I, tk_so J 4 0 (tk_u1 N 4 r), R)) _
          refine dn_run 1 (show tkDn tm_93 (65, [some (.inr (.inr (4, 0, 0))), some (.inr (.inr (1, b, 0))), some (.inl (nI g)), some (.inl (nI c)), some (.inr (.inl (u (se S (sgl S g)) c))), none, o6], [.inl (nI c), .inl (nI (sf S (sgl S g)))], (I, tk_so J 4 0 (tk_u1 N 4 r), R)) _ from ?_)
          refine dn_call rfl rfl rfl rfl rfl (sw_cell ?_)
          show tkDn tm_93 (68, [some (.inr (.inr (4, 0, 0))), some (.inr (.inr (1, b, 0))), some (.inl (nI g)), some (.inl (nI c)), some (.inr (.inl (u (se S (sgl S g)) c))), none, o6], [.inl (nI (6 * sf S (sgl S g) + c))], (I, tk_so J 4 0 (tk_u1 N 4 r), R)) _
          refine dn_run 10 (show (vp_in (nI (6 * sf S (sgl S g) + c)) 96) ∧ tkDn tm_93 (85, [some (.inr (.inr (4, 0, 0))), some (.inr (.inr (1, b, 0))), some (.inl (nI g)), some (.inl (nI c)), some (.inr (.inl (u (se S (sgl S g)) c))), none, some (.inl (nI (6 * sf S (sgl S g) + c)))], [.inl (nI g), .inr (.inr (1, b, 0)), .inr (.inl (r ((nI (6 * sf S (sgl S g) + c)).toNatClampNeg))), .inl (nI (6 * sf S (sgl S g) + c)), .inr (.inr (4, 0, 4))], (I, tk_so J 4 0 (tk_u1 N 4 r), R)) _ from ⟨vp_in_nI (by omega) (by omega), ?_⟩)
          rw [hr.at (by omega) (by omega)]
          show tkDn tm_93 (85, [some (.inr (.inr (4, 0, 0))), some (.inr (.inr (1, b, 0))), some (.inl (nI g)), some (.inl (nI c)), some (.inr (.inl (u (se S (sgl S g)) c))), none, some (.inl (nI (6 * sf S (sgl S g) + c)))], [.inl (nI g), .inr (.inr (1, b, 0)), .inr (.inl (cgI S u g (cgO S u v (sG S) g) c (sf S (sgl S g)) c)), .inl (nI (6 * sf S (sgl S g) + c)), .inr (.inr (4, 0, 4))], (I, tk_so J 4 0 (tk_u1 N 4 r), R)) _
          refine dn_call rfl rfl rfl rfl rfl (sN_giftLow hP w hg ?_)
          show tkDn tm_93 (88, [some (.inr (.inr (4, 0, 0))), some (.inr (.inr (1, b, 0))), some (.inl (nI g)), some (.inl (nI c)), some (.inr (.inl (u (se S (sgl S g)) c))), none, some (.inl (nI (6 * sf S (sgl S g) + c)))], [.inl (slo S (sgl S g)), .inr (.inl (cgI S u g (cgO S u v (sG S) g) c (sf S (sgl S g)) c)), .inl (nI (6 * sf S (sgl S g) + c)), .inr (.inr (4, 0, 4))], (I, tk_so J 4 0 (tk_u1 N 4 r), R)) _
          refine dn_run 7 (show (vp_in (nI (6 * sf S (sgl S g) + c)) 96) ∧ tkDn tm_93 (23, [some (.inr (.inr (4, 0, 0))), some (.inr (.inr (1, b, 0))), some (.inl (nI g)), some (.inl ((nI c) + 1)), some (.inr (.inl (u (se S (sgl S g)) c))), none, some (.inl (nI (6 * sf S (sgl S g) + c)))], [], (I, tk_so (tk_so J 4 0 (tk_u1 N 4 r)) 4 0 (tk_u2 (tk_u1 N 4 r) 4 ((nI (6 * sf S (sgl S g) + c)).toNatClampNeg) (if ((((slo S (sgl S g)) : Int32).toInt64) + (u (se S (sgl S g)) c)) < (cgI S u g (cgO S u v (sG S) g) c (sf S (sgl S g)) c) then ((((slo S (sgl S g)) : Int32).toInt64) + (u (se S (sgl S g)) c)) else (cgI S u g (cgO S u v (sG S) g) c (sf S (sgl S g)) c))), R)) _ from ⟨vp_in_nI (by omega) (by omega), ?_⟩)
          rw [tk_so_so]
          rw [tk_u2_u1, nI_clamp (show 6 * sf S (sgl S g) + c < 2 ^ 31 by omega), nI_1]
          refine ih (c + 1) _ _ _ (by omega) ?_
          rw [show cgI S u g (cgO S u v (sG S) g) (c + 1) = upM (cgI S u g (cgO S u v (sG S) g) c) (sf S (sgl S g)) c (if (slo S (sgl S g)).toInt64 + u (se S (sgl S g)) c < cgI S u g (cgO S u v (sG S) g) c (sf S (sgl S g)) c then (slo S (sgl S g)).toInt64 + u (se S (sgl S g)) c else cgI S u g (cgO S u v (sG S) g) c (sf S (sgl S g)) c) from if_pos ⟨fun z => c1 (by rw [z]), c2⟩]
          exact hr.put (by omega)
set_option maxRecDepth 8000 in
theorem sw_cg_out {I : tkI} {J : tkJ} {R : Nat → Nat} {Q : tkQ} {b : Nat} {S : tkS} (hP : NetP (I 1 b) S) (w : WF S) {u v : tkD} {N : Nat → Nat → Int64} (hu : WRow (N 6) u) (hQ : ∀ r, WRow r (cgO S u v (sG S) (sG S)) → Q none (I, tk_so J 4 0 (tk_u1 N 4 r), R)) : ∀ m g r oc o4 o6, g + m = sG S → WRow r (cgO S u v (sG S) g) → tkDn tm_93 (13, [some (.inr (.inr (4, 0, 0))), some (.inr (.inr (1, b, 0))), some (.inl (nI g)), oc, o4, none, o6], [], (I, tk_so J 4 0 (tk_u1 N 4 r), R)) Q := by
  have hM16 := w.1
  have hL60 := w.2.1
  have hG6 := w.2.2.1
  intro m
  induction m with
  | zero =>
    intro g r oc o4 o6 hg hr
    have hg : g = sG S := by omega
    rw [hg] at hr
    show tkDn tm_93 (13, [some (.inr (.inr (4, 0, 0))), some (.inr (.inr (1, b, 0))), some (.inl (nI g)), oc, o4, none, o6], [], (I, tk_so J 4 0 (tk_u1 N 4 r), R)) _
    refine dn_run 2 (show tkDn tm_93 (15, [some (.inr (.inr (4, 0, 0))), some (.inr (.inr (1, b, 0))), some (.inl (nI g)), oc, o4, none, o6], [.inr (.inr (1, b, 0)), .inl (nI g)], (I, tk_so J 4 0 (tk_u1 N 4 r), R)) _ from ?_)
    refine dn_call rfl rfl rfl rfl rfl (sN_giftCount hP ?_)
    show tkDn tm_93 (18, [some (.inr (.inr (4, 0, 0))), some (.inr (.inr (1, b, 0))), some (.inl (nI g)), oc, o4, none, o6], [.inl (nI (sG S)), .inl (nI g)], (I, tk_so J 4 0 (tk_u1 N 4 r), R)) _
    refine dn_if rfl rfl rfl (fun (qq : (nI (sG S)) ≤ (nI g)) => ?_) (fun (qq : ¬ (nI (sG S)) ≤ (nI g)) => ?_)
    · show tkDn tm_93 (108, [some (.inr (.inr (4, 0, 0))), some (.inr (.inr (1, b, 0))), some (.inl (nI g)), oc, o4, none, o6], [], (I, tk_so J 4 0 (tk_u1 N 4 r), R)) _
      refine dn_ret0 rfl rfl rfl rfl ?_
      exact hQ r hr
    · exact absurd (nI_le (by omega) (by omega)) qq
  | succ m ih =>
    intro g r oc o4 o6 hg hr
    show tkDn tm_93 (13, [some (.inr (.inr (4, 0, 0))), some (.inr (.inr (1, b, 0))), some (.inl (nI g)), oc, o4, none, o6], [], (I, tk_so J 4 0 (tk_u1 N 4 r), R)) _
    refine dn_run 2 (show tkDn tm_93 (15, [some (.inr (.inr (4, 0, 0))), some (.inr (.inr (1, b, 0))), some (.inl (nI g)), oc, o4, none, o6], [.inr (.inr (1, b, 0)), .inl (nI g)], (I, tk_so J 4 0 (tk_u1 N 4 r), R)) _ from ?_)
    refine dn_call rfl rfl rfl rfl rfl (sN_giftCount hP ?_)
    show tkDn tm_93 (18, [some (.inr (.inr (4, 0, 0))), some (.inr (.inr (1, b, 0))), some (.inl (nI g)), oc, o4, none, o6], [.inl (nI (sG S)), .inl (nI g)], (I, tk_so J 4 0 (tk_u1 N 4 r), R)) _
    refine dn_if rfl rfl rfl (fun (qq : (nI (sG S)) ≤ (nI g)) => ?_) (fun (qq : ¬ (nI (sG S)) ≤ (nI g)) => ?_)
    · exact absurd qq (nI_ge (by omega) (by omega))
    · show tkDn tm_93 (21, [some (.inr (.inr (4, 0, 0))), some (.inr (.inr (1, b, 0))), some (.inl (nI g)), oc, o4, none, o6], [], (I, tk_so J 4 0 (tk_u1 N 4 r), R)) _
      refine dn_run 2 (show tkDn tm_93 (23, [some (.inr (.inr (4, 0, 0))), some (.inr (.inr (1, b, 0))), some (.inl (nI g)), some (.inl 0), o4, none, o6], [], (I, tk_so J 4 0 (tk_u1 N 4 r), R)) _ from ?_)
      refine sw_cg_in hP w hu (by omega) (fun r2 o4x o6x hr2 => ?_) (sG S) 0 r _ _ (Nat.zero_add _) hr
      show tkDn tm_93 (102, [some (.inr (.inr (4, 0, 0))), some (.inr (.inr (1, b, 0))), some (.inl (nI g)), some (.inl (nI (sG S))), o4x, none, o6x], [], (I, tk_so J 4 0 (tk_u1 N 4 r2), R)) _
      refine dn_run 2 (show tkDn tm_93 (13, [some (.inr (.inr (4, 0, 0))), some (.inr (.inr (1, b, 0))), some (.inl ((nI g) + 1)), some (.inl (nI (sG S))), o4x, none, o6x], [], (I, tk_so J 4 0 (tk_u1 N 4 r2), R)) _ from ?_)
      rw [nI_1]
      exact ih (g + 1) r2 _ _ _ (by omega) hr2
set_option maxRecDepth 8000 in
theorem sw_carryWaits {I : tkI} {J : tkJ} {R : Nat → Nat} {Q : tkQ} {b : Nat} {S : tkS} (hP : NetP (I 1 b) S) (w : WF S) {v : tkD} {N : Nat → Nat → Int64} (hv : WRow (N 4) v) (hQ : ∀ N2, WRow (N2 4) (cgO S v v (sG S) (sG S)) → (∀ s, s ≠ 4 → s ≠ 6 → N2 s = N s) → Q none (I, tk_so J 4 0 N2, R)) : tkDn tm_93 (0, [some (.inr (.inr (4, 0, 0))), some (.inr (.inr (1, b, 0))), none, none, none, none, none], [], (I, tk_so J 4 0 N, R)) Q := by
  refine dn_run 4 (show tkDn tm_93 (8, [some (.inr (.inr (4, 0, 0))), some (.inr (.inr (1, b, 0))), none, none, none, none, none], [.inr (.inr (4, 0, 6)), .inr (.inr (4, 0, 4))], (I, tk_so J 4 0 N, R)) _ from ?_)
  refine dn_call rfl rfl rfl rfl rfl (sw_copy_4_6 (fun r hr => ?_))
  rw [tk_so_so, tk_so_same]
  rw [tk_so_same] at hr
  show tkDn tm_93 (11, [some (.inr (.inr (4, 0, 0))), some (.inr (.inr (1, b, 0))), none, none, none, none, none], [], (I, tk_so J 4 0 (tk_u1 N 6 r), R)) _
  refine dn_run 2 (show tkDn tm_93 (13, [some (.inr (.inr (4, 0, 0))), some (.inr (.inr (1, b, 0))), some (.inl 0), none, none, none, none], [], (I, tk_so J 4 0 (tk_u1 N 6 r), R)) _ from ?_)
  have key := sw_cg_out (J := J) (N := tk_u1 N 6 r) (R := R) (Q := Q) (u := v) (v := v) hP w (by rw [tk_u1_same]; exact hv.cp hr) (fun r2 hr2 => hQ _ (by rw [tk_u1_same]; exact hr2) (fun s h1 h3 => by rw [tk_u1_ne h1, tk_u1_ne h3])) (sG S) 0 (N 4) none none none (Nat.zero_add _) hv
  rw [show tk_u1 (tk_u1 N 6 r) 4 (N 4) = tk_u1 N 6 r by rw [show N 4 = tk_u1 N 6 r 4 from (tk_u1_ne (by decide)).symm, tk_u1_id]] at key
  exact key
set_option maxRecDepth 8000 in
theorem sw_hr_in {I : tkI} {J : tkJ} {R : Nat → Nat} {Q : tkQ} {b : Nat} {S : tkS} (hP : NetP (I 1 b) S) (w : WF S) {e v : tkD} {N : Nat → Nat → Int64} (hv : WRow (N 4) v) {g : Nat} (hg : g < sG S) (hK : ∀ r , RowP 16 r (hrI S v g (hrO S v e (sM S) g) (sM S)) → tkDn tm_94 (60, [some (.inr (.inr (4, 0, 0))), some (.inr (.inr (1, b, 0))), some (.inl (nI g)), some (.inl (nI (sM S)))], [], (I, tk_so J 4 0 (tk_u1 N 3 r), R)) Q) : ∀ m c r , c + m = sM S → RowP 16 r (hrI S v g (hrO S v e (sM S) g) c) → tkDn tm_94 (23, [some (.inr (.inr (4, 0, 0))), some (.inr (.inr (1, b, 0))), some (.inl (nI g)), some (.inl (nI c))], [], (I, tk_so J 4 0 (tk_u1 N 3 r), R)) Q := by
  have hM16 := w.1
  have hL60 := w.2.1
  have hG6 := w.2.2.1
  have hgl := w.gl hg
  have hf := w.fM hgl
  have he_ := w.eM hgl
  intro m
  induction m with
  | zero =>
    intro c r  hc hr
    have hc : c = sM S := by omega
    subst hc
    show tkDn tm_94 (23, [some (.inr (.inr (4, 0, 0))), some (.inr (.inr (1, b, 0))), some (.inl (nI g)), some (.inl (nI (sM S)))], [], (I, tk_so J 4 0 (tk_u1 N 3 r), R)) _
    refine dn_run 2 (show tkDn tm_94 (25, [some (.inr (.inr (4, 0, 0))), some (.inr (.inr (1, b, 0))), some (.inl (nI g)), some (.inl (nI (sM S)))], [.inr (.inr (1, b, 0)), .inl (nI (sM S))], (I, tk_so J 4 0 (tk_u1 N 3 r), R)) _ from ?_)
    refine dn_call rfl rfl rfl rfl rfl (sN_momentCount hP ?_)
    show tkDn tm_94 (28, [some (.inr (.inr (4, 0, 0))), some (.inr (.inr (1, b, 0))), some (.inl (nI g)), some (.inl (nI (sM S)))], [.inl (nI (sM S)), .inl (nI (sM S))], (I, tk_so J 4 0 (tk_u1 N 3 r), R)) _
    refine dn_if rfl rfl rfl (fun (qq : (nI (sM S)) ≤ (nI (sM S))) => ?_) (fun (qq : ¬ (nI (sM S)) ≤ (nI (sM S))) => ?_)
    · show tkDn tm_94 (60, [some (.inr (.inr (4, 0, 0))), some (.inr (.inr (1, b, 0))), some (.inl (nI g)), some (.inl (nI (sM S)))], [], (I, tk_so J 4 0 (tk_u1 N 3 r), R)) _
      exact hK r  hr
    · exact absurd (nI_le (by omega) (by omega)) qq
  | succ m ih =>
    intro c r  hc hr
    show tkDn tm_94 (23, [some (.inr (.inr (4, 0, 0))), some (.inr (.inr (1, b, 0))), some (.inl (nI g)), some (.inl (nI c))], [], (I, tk_so J 4 0 (tk_u1 N 3 r), R)) _
    refine dn_run 2 (show tkDn tm_94 (25, [some (.inr (.inr (4, 0, 0))), some (.inr (.inr (1, b, 0))), some (.inl (nI g)), some (.inl (nI c))], [.inr (.inr (1, b, 0)), .inl (nI c)], (I, tk_so J 4 0 (tk_u1 N 3 r), R)) _ from ?_)
    refine dn_call rfl rfl rfl rfl rfl (sN_momentCount hP ?_)
    show tkDn tm_94 (28, [some (.inr (.inr (4, 0, 0))), some (.inr (.inr (1, b, 0))), some (.inl (nI g)), some (.inl (nI c))], [.inl (nI (sM S)), .inl (nI c)], (I, tk_so J 4 0 (tk_u1 N 3 r), R)) _
    refine dn_if rfl rfl rfl (fun (qq : (nI (sM S)) ≤ (nI c)) => ?_) (fun (qq : ¬ (nI (sM S)) ≤ (nI c)) => ?_)
    · exact absurd qq (nI_ge (by omega) (by omega))
    · show tkDn tm_94 (31, [some (.inr (.inr (4, 0, 0))), some (.inr (.inr (1, b, 0))), some (.inl (nI g)), some (.inl (nI c))], [], (I, tk_so J 4 0 (tk_u1 N 3 r), R)) _
      refine dn_run 5 (show tkDn tm_94 (38, [some (.inr (.inr (4, 0, 0))), some (.inr (.inr (1, b, 0))), some (.inl (nI g)), some (.inl (nI c))], [.inl (nI g), .inr (.inr (1, b, 0)), .inl (nI c), .inr (.inr (4, 0, 3))], (I, tk_so J 4 0 (tk_u1 N 3 r), R)) _ from ?_)
      refine dn_call rfl rfl rfl rfl rfl (sN_giftFrom hP w hg ?_)
      show tkDn tm_94 (41, [some (.inr (.inr (4, 0, 0))), some (.inr (.inr (1, b, 0))), some (.inl (nI g)), some (.inl (nI c))], [.inl (nI (sf S (sgl S g))), .inl (nI c), .inr (.inr (4, 0, 3))], (I, tk_so J 4 0 (tk_u1 N 3 r), R)) _
      refine dn_run 4 (show tkDn tm_94 (47, [some (.inr (.inr (4, 0, 0))), some (.inr (.inr (1, b, 0))), some (.inl (nI g)), some (.inl (nI c))], [.inl (nI g), .inl (nI c), .inr (.inr (4, 0, 4)), .inl (nI (sf S (sgl S g))), .inl (nI c), .inr (.inr (4, 0, 3))], (I, tk_so J 4 0 (tk_u1 N 3 r), R)) _ from ?_)
      refine dn_call rfl rfl rfl rfl rfl (sw_cell ?_)
      show tkDn tm_94 (50, [some (.inr (.inr (4, 0, 0))), some (.inr (.inr (1, b, 0))), some (.inl (nI g)), some (.inl (nI c))], [.inl (nI (6 * c + g)), .inr (.inr (4, 0, 4)), .inl (nI (sf S (sgl S g))), .inl (nI c), .inr (.inr (4, 0, 3))], (I, tk_so J 4 0 (tk_u1 N 3 r), R)) _
      refine dn_run 1 (show (vp_in (nI (6 * c + g)) 96) ∧ tkDn tm_94 (51, [some (.inr (.inr (4, 0, 0))), some (.inr (.inr (1, b, 0))), some (.inl (nI g)), some (.inl (nI c))], [.inr (.inl (N 4 ((nI (6 * c + g)).toNatClampNeg))), .inl (nI (sf S (sgl S g))), .inl (nI c), .inr (.inr (4, 0, 3))], (I, tk_so J 4 0 (tk_u1 N 3 r), R)) _ from ⟨vp_in_nI (by omega) (by omega), ?_⟩)
      rw [hv.at (by omega) (by omega)]
      show tkDn tm_94 (51, [some (.inr (.inr (4, 0, 0))), some (.inr (.inr (1, b, 0))), some (.inl (nI g)), some (.inl (nI c))], [.inr (.inl (v c g)), .inl (nI (sf S (sgl S g))), .inl (nI c), .inr (.inr (4, 0, 3))], (I, tk_so J 4 0 (tk_u1 N 3 r), R)) _
      refine dn_call rfl rfl rfl rfl rfl (ss_lower_4_3 (by omega) (by omega) ?_)
      rw [tk_so_so, tk_so_same, tk_u1_u1, tk_u1_same]
      show tkDn tm_94 (54, [some (.inr (.inr (4, 0, 0))), some (.inr (.inr (1, b, 0))), some (.inl (nI g)), some (.inl (nI c))], [], (I, tk_so J 4 0 (tk_u1 N 3 (low1 r (16 * c + (sf S (sgl S g))) (v c g))), R)) _
      refine dn_run 2 (show tkDn tm_94 (23, [some (.inr (.inr (4, 0, 0))), some (.inr (.inr (1, b, 0))), some (.inl (nI g)), some (.inl ((nI c) + 1))], [], (I, tk_so J 4 0 (tk_u1 N 3 (low1 r (16 * c + (sf S (sgl S g))) (v c g))), R)) _ from ?_)
      rw [nI_1]
      exact ih (c + 1) _ (by omega) (hr.low (by omega) (by omega) (by omega))
set_option maxRecDepth 8000 in
theorem sw_hr_out {I : tkI} {J : tkJ} {R : Nat → Nat} {Q : tkQ} {b : Nat} {S : tkS} (hP : NetP (I 1 b) S) (w : WF S) {e v : tkD} {N : Nat → Nat → Int64} (hv : WRow (N 4) v) (hQ : ∀ r, Q (some (.inl (if (clF (hrO S v e (sM S) (sG S)) (sM S)).1 = true then 0 else 1))) (I, tk_so J 4 0 (tk_u1 N 3 r), R)) : ∀ m g r oc, g + m = sG S → RowP 16 r (hrO S v e (sM S) g) → tkDn tm_94 (13, [some (.inr (.inr (4, 0, 0))), some (.inr (.inr (1, b, 0))), some (.inl (nI g)), oc], [], (I, tk_so J 4 0 (tk_u1 N 3 r), R)) Q := by
  have hM16 := w.1
  have hL60 := w.2.1
  have hG6 := w.2.2.1
  intro m
  induction m with
  | zero =>
    intro g r oc hg hr
    have hg : g = sG S := by omega
    rw [hg] at hr
    show tkDn tm_94 (13, [some (.inr (.inr (4, 0, 0))), some (.inr (.inr (1, b, 0))), some (.inl (nI g)), oc], [], (I, tk_so J 4 0 (tk_u1 N 3 r), R)) _
    refine dn_run 2 (show tkDn tm_94 (15, [some (.inr (.inr (4, 0, 0))), some (.inr (.inr (1, b, 0))), some (.inl (nI g)), oc], [.inr (.inr (1, b, 0)), .inl (nI g)], (I, tk_so J 4 0 (tk_u1 N 3 r), R)) _ from ?_)
    refine dn_call rfl rfl rfl rfl rfl (sN_giftCount hP ?_)
    show tkDn tm_94 (18, [some (.inr (.inr (4, 0, 0))), some (.inr (.inr (1, b, 0))), some (.inl (nI g)), oc], [.inl (nI (sG S)), .inl (nI g)], (I, tk_so J 4 0 (tk_u1 N 3 r), R)) _
    refine dn_if rfl rfl rfl (fun (qq : (nI (sG S)) ≤ (nI g)) => ?_) (fun (qq : ¬ (nI (sG S)) ≤ (nI g)) => ?_)
    · show tkDn tm_94 (66, [some (.inr (.inr (4, 0, 0))), some (.inr (.inr (1, b, 0))), some (.inl (nI g)), oc], [], (I, tk_so J 4 0 (tk_u1 N 3 r), R)) _
      refine dn_run 3 (show tkDn tm_94 (71, [some (.inr (.inr (4, 0, 0))), some (.inr (.inr (1, b, 0))), some (.inl (nI g)), oc], [.inr (.inr (1, b, 0)), .inr (.inr (4, 0, 3))], (I, tk_so J 4 0 (tk_u1 N 3 r), R)) _ from ?_)
      refine dn_call rfl rfl rfl rfl rfl (sN_momentCount hP ?_)
      show tkDn tm_94 (74, [some (.inr (.inr (4, 0, 0))), some (.inr (.inr (1, b, 0))), some (.inl (nI g)), oc], [.inl (nI (sM S)), .inr (.inr (4, 0, 3))], (I, tk_so J 4 0 (tk_u1 N 3 r), R)) _
      refine dn_call rfl rfl rfl rfl rfl (ss_close_4_3 (d := hrO S v e (sM S) (sG S)) hM16 hr (fun r3 hr3 => ?_))
      rw [tk_so_so, tk_so_same, tk_u1_u1]
      show tkDn tm_94 (77, [some (.inr (.inr (4, 0, 0))), some (.inr (.inr (1, b, 0))), some (.inl (nI g)), oc], [.inl (if (clF (hrO S v e (sM S) (sG S)) (sM S)).1 = true then 1 else 0)], (I, tk_so J 4 0 (tk_u1 N 3 r3), R)) _
      refine dn_if rfl rfl rfl (fun (c : ¬ (if (clF (hrO S v e (sM S) (sG S)) (sM S)).1 = true then 1 else 0) = 0) => ?_) (fun (c : (if (clF (hrO S v e (sM S) (sG S)) (sM S)).1 = true then 1 else 0) = 0) => ?_)
      · show tkDn tm_94 (84, [some (.inr (.inr (4, 0, 0))), some (.inr (.inr (1, b, 0))), some (.inl (nI g)), oc], [], (I, tk_so J 4 0 (tk_u1 N 3 r3), R)) _
        refine dn_run 1 (show tkDn tm_94 (85, [some (.inr (.inr (4, 0, 0))), some (.inr (.inr (1, b, 0))), some (.inl (nI g)), oc], [.inl 0], (I, tk_so J 4 0 (tk_u1 N 3 r3), R)) _ from ?_)
        refine dn_retb rfl rfl rfl rfl (by decide) ?_
        have e1 : (clF (hrO S v e (sM S) (sG S)) (sM S)).1 = true := by by_cases z : (clF (hrO S v e (sM S) (sG S)) (sM S)).1 = true; exact z; exact absurd (if_neg z) c
        have := hQ r3
        rw [if_pos e1] at this
        exact this
      · show tkDn tm_94 (80, [some (.inr (.inr (4, 0, 0))), some (.inr (.inr (1, b, 0))), some (.inl (nI g)), oc], [], (I, tk_so J 4 0 (tk_u1 N 3 r3), R)) _
        refine dn_run 2 (show tkDn tm_94 (85, [some (.inr (.inr (4, 0, 0))), some (.inr (.inr (1, b, 0))), some (.inl (nI g)), oc], [.inl 1], (I, tk_so J 4 0 (tk_u1 N 3 r3), R)) _ from ?_)
        refine dn_retb rfl rfl rfl rfl (by decide) ?_
        have e1 : ¬ (clF (hrO S v e (sM S) (sG S)) (sM S)).1 = true := fun z => by rw [if_pos z] at c; exact absurd c (by decide)
        have := hQ r3
        rw [if_neg e1] at this
        exact this
    · exact absurd (nI_le (by omega) (by omega)) qq
  | succ m ih =>
    intro g r oc hg hr
    show tkDn tm_94 (13, [some (.inr (.inr (4, 0, 0))), some (.inr (.inr (1, b, 0))), some (.inl (nI g)), oc], [], (I, tk_so J 4 0 (tk_u1 N 3 r), R)) _
    refine dn_run 2 (show tkDn tm_94 (15, [some (.inr (.inr (4, 0, 0))), some (.inr (.inr (1, b, 0))), some (.inl (nI g)), oc], [.inr (.inr (1, b, 0)), .inl (nI g)], (I, tk_so J 4 0 (tk_u1 N 3 r), R)) _ from ?_)
    refine dn_call rfl rfl rfl rfl rfl (sN_giftCount hP ?_)
    show tkDn tm_94 (18, [some (.inr (.inr (4, 0, 0))), some (.inr (.inr (1, b, 0))), some (.inl (nI g)), oc], [.inl (nI (sG S)), .inl (nI g)], (I, tk_so J 4 0 (tk_u1 N 3 r), R)) _
    refine dn_if rfl rfl rfl (fun (qq : (nI (sG S)) ≤ (nI g)) => ?_) (fun (qq : ¬ (nI (sG S)) ≤ (nI g)) => ?_)
    · exact absurd qq (nI_ge (by omega) (by omega))
    · show tkDn tm_94 (21, [some (.inr (.inr (4, 0, 0))), some (.inr (.inr (1, b, 0))), some (.inl (nI g)), oc], [], (I, tk_so J 4 0 (tk_u1 N 3 r), R)) _
      refine dn_run 2 (show tkDn tm_94 (23, [some (.inr (.inr (4, 0, 0))), some (.inr (.inr (1, b, 0))), some (.inl (nI g)), some (.inl 0)], [], (I, tk_so J 4 0 (tk_u1 N 3 r), R)) _ from ?_)
      refine sw_hr_in hP w hv (by omega) (fun r2  hr2 => ?_) (sM S) 0 r  (Nat.zero_add _) hr
      show tkDn tm_94 (60, [some (.inr (.inr (4, 0, 0))), some (.inr (.inr (1, b, 0))), some (.inl (nI g)), some (.inl (nI (sM S)))], [], (I, tk_so J 4 0 (tk_u1 N 3 r2), R)) _
      refine dn_run 2 (show tkDn tm_94 (13, [some (.inr (.inr (4, 0, 0))), some (.inr (.inr (1, b, 0))), some (.inl ((nI g) + 1)), some (.inl (nI (sM S)))], [], (I, tk_so J 4 0 (tk_u1 N 3 r2), R)) _ from ?_)
      rw [nI_1]
      exact ih (g + 1) r2 _ (by omega) hr2
set_option maxRecDepth 8000 in
theorem sw_hasRing {I : tkI} {J : tkJ} {R : Nat → Nat} {Q : tkQ} {b : Nat} {S : tkS} (hP : NetP (I 1 b) S) (w : WF S) {e v : tkD} {N : Nat → Nat → Int64} (he : RowP 16 (N 1) e) (hv : WRow (N 4) v) (hQ : ∀ N2, (∀ s, s ≠ 3 → N2 s = N s) → Q (some (.inl (if (clF (hrO S v e (sM S) (sG S)) (sM S)).1 = true then 0 else 1))) (I, tk_so J 4 0 N2, R)) : tkDn tm_94 (0, [some (.inr (.inr (4, 0, 0))), some (.inr (.inr (1, b, 0))), none, none], [], (I, tk_so J 4 0 N, R)) Q := by
  refine dn_run 4 (show tkDn tm_94 (8, [some (.inr (.inr (4, 0, 0))), some (.inr (.inr (1, b, 0))), none, none], [.inr (.inr (4, 0, 3)), .inr (.inr (4, 0, 1))], (I, tk_so J 4 0 N, R)) _ from ?_)
  refine dn_call rfl rfl rfl rfl rfl (sw_copy_1_3 (fun r hr => ?_))
  rw [tk_so_so, tk_so_same]
  rw [tk_so_same] at hr
  show tkDn tm_94 (11, [some (.inr (.inr (4, 0, 0))), some (.inr (.inr (1, b, 0))), none, none], [], (I, tk_so J 4 0 (tk_u1 N 3 r), R)) _
  refine dn_run 2 (show tkDn tm_94 (13, [some (.inr (.inr (4, 0, 0))), some (.inr (.inr (1, b, 0))), some (.inl 0), none], [], (I, tk_so J 4 0 (tk_u1 N 3 r), R)) _ from ?_)
  have key := sw_hr_out (J := J) (N := N) (R := R) (Q := Q) (e := e) (v := v) hP w hv (fun r2 => hQ _ (fun s h3 => tk_u1_ne h3)) (sG S) 0 r none (Nat.zero_add _) (he.cp hr)
  exact key
end
