-- ===== PART A: goes FIRST, ahead of the names: the tables' words, and 'selects' of the private methods out of them =====
/-- a private method of a class that the tables say can be made, by its rows of tables_1 -/
def lw_okq (q : MethodName × Nat) : Prop := (q.1.cls ≠ "java/lang/invoke/MethodHandle" ∧ q.1.cls ≠ "java/lang/invoke/VarHandle") ∧ Cond.instantiable q.1.cls q.2 ∈ tables_1 ∧ Cond.privateMethod q.1 ∈ tables_1 ∧ Cond.instanceMethod q.1 ∈ tables_1
theorem lw_p0 : lw_okq (⟨"LandTaken", "wasOrderMade", "()Z"⟩, 11) := ⟨⟨by decide +kernel, by decide +kernel⟩, List.mem_of_getElem? (i := 11) (by decide +kernel), List.mem_of_getElem? (i := 175) (by decide +kernel), List.mem_of_getElem? (i := 176) (by decide +kernel)⟩
theorem lw_p1 : lw_okq (⟨"LandTaken", "isField", "(I)Z"⟩, 11) := ⟨⟨by decide +kernel, by decide +kernel⟩, List.mem_of_getElem? (i := 11) (by decide +kernel), List.mem_of_getElem? (i := 195) (by decide +kernel), List.mem_of_getElem? (i := 196) (by decide +kernel)⟩
theorem lw_p2 : lw_okq (⟨"LandTaken", "pullDownHouse", "(I)V"⟩, 11) := ⟨⟨by decide +kernel, by decide +kernel⟩, List.mem_of_getElem? (i := 11) (by decide +kernel), List.mem_of_getElem? (i := 202) (by decide +kernel), List.mem_of_getElem? (i := 203) (by decide +kernel)⟩
theorem lw_p3 : lw_okq (⟨"LandTaken", "openOrder", "()LLandTaken$Order;"⟩, 11) := ⟨⟨by decide +kernel, by decide +kernel⟩, List.mem_of_getElem? (i := 11) (by decide +kernel), List.mem_of_getElem? (i := 260) (by decide +kernel), List.mem_of_getElem? (i := 261) (by decide +kernel)⟩
theorem lw_p4 : lw_okq (⟨"LandTaken", "latestOrder", "()LLandTaken$Order;"⟩, 11) := ⟨⟨by decide +kernel, by decide +kernel⟩, List.mem_of_getElem? (i := 11) (by decide +kernel), List.mem_of_getElem? (i := 264) (by decide +kernel), List.mem_of_getElem? (i := 265) (by decide +kernel)⟩
theorem lw_p5 : lw_okq (⟨"LandTaken", "orderAt", "(I)LLandTaken$Order;"⟩, 11) := ⟨⟨by decide +kernel, by decide +kernel⟩, List.mem_of_getElem? (i := 11) (by decide +kernel), List.mem_of_getElem? (i := 268) (by decide +kernel), List.mem_of_getElem? (i := 269) (by decide +kernel)⟩
theorem lw_p6 : lw_okq (⟨"LandTaken", "touchesField", "()Z"⟩, 11) := ⟨⟨by decide +kernel, by decide +kernel⟩, List.mem_of_getElem? (i := 11) (by decide +kernel), List.mem_of_getElem? (i := 288) (by decide +kernel), List.mem_of_getElem? (i := 289) (by decide +kernel)⟩
theorem lw_p7 : lw_okq (⟨"LandTaken", "emptyLineIfDone", "(LLandTaken$Order;)V"⟩, 11) := ⟨⟨by decide +kernel, by decide +kernel⟩, List.mem_of_getElem? (i := 11) (by decide +kernel), List.mem_of_getElem? (i := 415) (by decide +kernel), List.mem_of_getElem? (i := 416) (by decide +kernel)⟩
theorem lw_p8 : lw_okq (⟨"LandTaken", "takeReadyCells", "(LLandTaken$Order;)V"⟩, 11) := ⟨⟨by decide +kernel, by decide +kernel⟩, List.mem_of_getElem? (i := 11) (by decide +kernel), List.mem_of_getElem? (i := 435) (by decide +kernel), List.mem_of_getElem? (i := 436) (by decide +kernel)⟩
theorem lw_p9 : lw_okq (⟨"LandTaken", "settleReadyCases", "(LLandTaken$Order;)I"⟩, 11) := ⟨⟨by decide +kernel, by decide +kernel⟩, List.mem_of_getElem? (i := 11) (by decide +kernel), List.mem_of_getElem? (i := 444) (by decide +kernel), List.mem_of_getElem? (i := 445) (by decide +kernel)⟩
theorem lw_p10 : lw_okq (⟨"LandTaken", "assess", "(LLandTaken$Case;LLandTaken$Field;)V"⟩, 11) := ⟨⟨by decide +kernel, by decide +kernel⟩, List.mem_of_getElem? (i := 11) (by decide +kernel), List.mem_of_getElem? (i := 448) (by decide +kernel), List.mem_of_getElem? (i := 449) (by decide +kernel)⟩
theorem lw_p11 : lw_okq (⟨"LandTaken", "lossOfPieces", "()J"⟩, 11) := ⟨⟨by decide +kernel, by decide +kernel⟩, List.mem_of_getElem? (i := 11) (by decide +kernel), List.mem_of_getElem? (i := 489) (by decide +kernel), List.mem_of_getElem? (i := 490) (by decide +kernel)⟩
theorem lw_p12 : lw_okq (⟨"LandTaken", "lossBefore", "(I)J"⟩, 11) := ⟨⟨by decide +kernel, by decide +kernel⟩, List.mem_of_getElem? (i := 11) (by decide +kernel), List.mem_of_getElem? (i := 503) (by decide +kernel), List.mem_of_getElem? (i := 504) (by decide +kernel)⟩
theorem lw_p13 : lw_okq (⟨"LandTaken", "share", "(LLandTaken$Case;LLandTaken$Field;)V"⟩, 11) := ⟨⟨by decide +kernel, by decide +kernel⟩, List.mem_of_getElem? (i := 11) (by decide +kernel), List.mem_of_getElem? (i := 527) (by decide +kernel), List.mem_of_getElem? (i := 528) (by decide +kernel)⟩
theorem lw_p14 : lw_okq (⟨"LandTaken", "oweDebtsAgain", "(LLandTaken$Case;)V"⟩, 11) := ⟨⟨by decide +kernel, by decide +kernel⟩, List.mem_of_getElem? (i := 11) (by decide +kernel), List.mem_of_getElem? (i := 540) (by decide +kernel), List.mem_of_getElem? (i := 541) (by decide +kernel)⟩
theorem lw_p15 : lw_okq (⟨"LandTaken", "caseOf", "(II)LLandTaken$Case;"⟩, 11) := ⟨⟨by decide +kernel, by decide +kernel⟩, List.mem_of_getElem? (i := 11) (by decide +kernel), List.mem_of_getElem? (i := 552) (by decide +kernel), List.mem_of_getElem? (i := 553) (by decide +kernel)⟩
def lw_privs_1 : List (MethodName × Nat) := [(⟨"LandTaken", "wasOrderMade", "()Z"⟩, 11), (⟨"LandTaken", "isField", "(I)Z"⟩, 11), (⟨"LandTaken", "pullDownHouse", "(I)V"⟩, 11), (⟨"LandTaken", "openOrder", "()LLandTaken$Order;"⟩, 11), (⟨"LandTaken", "latestOrder", "()LLandTaken$Order;"⟩, 11), (⟨"LandTaken", "orderAt", "(I)LLandTaken$Order;"⟩, 11), (⟨"LandTaken", "touchesField", "()Z"⟩, 11), (⟨"LandTaken", "emptyLineIfDone", "(LLandTaken$Order;)V"⟩, 11), (⟨"LandTaken", "takeReadyCells", "(LLandTaken$Order;)V"⟩, 11), (⟨"LandTaken", "settleReadyCases", "(LLandTaken$Order;)I"⟩, 11), (⟨"LandTaken", "assess", "(LLandTaken$Case;LLandTaken$Field;)V"⟩, 11), (⟨"LandTaken", "lossOfPieces", "()J"⟩, 11), (⟨"LandTaken", "lossBefore", "(I)J"⟩, 11), (⟨"LandTaken", "share", "(LLandTaken$Case;LLandTaken$Field;)V"⟩, 11), (⟨"LandTaken", "oweDebtsAgain", "(LLandTaken$Case;)V"⟩, 11), (⟨"LandTaken", "caseOf", "(II)LLandTaken$Case;"⟩, 11)]
theorem lw_r1 : ∀ q ∈ lw_privs_1, lw_okq q := List.forall_mem_cons.mpr ⟨lw_p0, List.forall_mem_cons.mpr ⟨lw_p1, List.forall_mem_cons.mpr ⟨lw_p2, List.forall_mem_cons.mpr ⟨lw_p3, List.forall_mem_cons.mpr ⟨lw_p4, List.forall_mem_cons.mpr ⟨lw_p5, List.forall_mem_cons.mpr ⟨lw_p6, List.forall_mem_cons.mpr ⟨lw_p7, List.forall_mem_cons.mpr ⟨lw_p8, List.forall_mem_cons.mpr ⟨lw_p9, List.forall_mem_cons.mpr ⟨lw_p10, List.forall_mem_cons.mpr ⟨lw_p11, List.forall_mem_cons.mpr ⟨lw_p12, List.forall_mem_cons.mpr ⟨lw_p13, List.forall_mem_cons.mpr ⟨lw_p14, List.forall_mem_cons.mpr ⟨lw_p15, fun _ h => absurd h List.not_mem_nil⟩⟩⟩⟩⟩⟩⟩⟩⟩⟩⟩⟩⟩⟩⟩⟩
theorem lw_p16 : lw_okq (⟨"LandTaken", "casesOfLatest", "()I"⟩, 11) := ⟨⟨by decide +kernel, by decide +kernel⟩, List.mem_of_getElem? (i := 11) (by decide +kernel), List.mem_of_getElem? (i := 614) (by decide +kernel), List.mem_of_getElem? (i := 615) (by decide +kernel)⟩
theorem lw_p17 : lw_okq (⟨"LandTaken", "mixedCells", "(J)J"⟩, 11) := ⟨⟨by decide +kernel, by decide +kernel⟩, List.mem_of_getElem? (i := 11) (by decide +kernel), List.mem_of_getElem? (i := 627) (by decide +kernel), List.mem_of_getElem? (i := 628) (by decide +kernel)⟩
theorem lw_p18 : lw_okq (⟨"LandTaken", "mixedFields", "(J)J"⟩, 11) := ⟨⟨by decide +kernel, by decide +kernel⟩, List.mem_of_getElem? (i := 11) (by decide +kernel), List.mem_of_getElem? (i := 632) (by decide +kernel), List.mem_of_getElem? (i := 633) (by decide +kernel)⟩
theorem lw_p19 : lw_okq (⟨"LandTaken", "mixedOrders", "(J)J"⟩, 11) := ⟨⟨by decide +kernel, by decide +kernel⟩, List.mem_of_getElem? (i := 11) (by decide +kernel), List.mem_of_getElem? (i := 636) (by decide +kernel), List.mem_of_getElem? (i := 637) (by decide +kernel)⟩
theorem lw_p20 : lw_okq (⟨"LandTakenModel", "fresh", "()V"⟩, 46) := ⟨⟨by decide +kernel, by decide +kernel⟩, List.mem_of_getElem? (i := 642) (by decide +kernel), List.mem_of_getElem? (i := 648) (by decide +kernel), List.mem_of_getElem? (i := 649) (by decide +kernel)⟩
theorem lw_p21 : lw_okq (⟨"LandTakenModel", "isCell", "(II)Z"⟩, 46) := ⟨⟨by decide +kernel, by decide +kernel⟩, List.mem_of_getElem? (i := 642) (by decide +kernel), List.mem_of_getElem? (i := 807) (by decide +kernel), List.mem_of_getElem? (i := 808) (by decide +kernel)⟩
theorem lw_p22 : lw_okq (⟨"LandTakenModel", "isField", "(I)Z"⟩, 46) := ⟨⟨by decide +kernel, by decide +kernel⟩, List.mem_of_getElem? (i := 642) (by decide +kernel), List.mem_of_getElem? (i := 811) (by decide +kernel), List.mem_of_getElem? (i := 812) (by decide +kernel)⟩
theorem lw_p23 : lw_okq (⟨"LandTakenModel", "clearHouse", "(I)V"⟩, 46) := ⟨⟨by decide +kernel, by decide +kernel⟩, List.mem_of_getElem? (i := 642) (by decide +kernel), List.mem_of_getElem? (i := 816) (by decide +kernel), List.mem_of_getElem? (i := 817) (by decide +kernel)⟩
theorem lw_p24 : lw_okq (⟨"LandTakenModel", "costOf", "(II)I"⟩, 46) := ⟨⟨by decide +kernel, by decide +kernel⟩, List.mem_of_getElem? (i := 642) (by decide +kernel), List.mem_of_getElem? (i := 845) (by decide +kernel), List.mem_of_getElem? (i := 846) (by decide +kernel)⟩
theorem lw_p25 : lw_okq (⟨"LandTakenModel", "wanted", "(I)I"⟩, 46) := ⟨⟨by decide +kernel, by decide +kernel⟩, List.mem_of_getElem? (i := 642) (by decide +kernel), List.mem_of_getElem? (i := 867) (by decide +kernel), List.mem_of_getElem? (i := 868) (by decide +kernel)⟩
theorem lw_p26 : lw_okq (⟨"LandTakenModel", "isLeft", "(II)Z"⟩, 46) := ⟨⟨by decide +kernel, by decide +kernel⟩, List.mem_of_getElem? (i := 642) (by decide +kernel), List.mem_of_getElem? (i := 871) (by decide +kernel), List.mem_of_getElem? (i := 872) (by decide +kernel)⟩
theorem lw_p27 : lw_okq (⟨"LandTakenModel", "close", "()V"⟩, 46) := ⟨⟨by decide +kernel, by decide +kernel⟩, List.mem_of_getElem? (i := 642) (by decide +kernel), List.mem_of_getElem? (i := 883) (by decide +kernel), List.mem_of_getElem? (i := 884) (by decide +kernel)⟩
theorem lw_p28 : lw_okq (⟨"LandTakenModel", "mayEnter", "(II)Z"⟩, 46) := ⟨⟨by decide +kernel, by decide +kernel⟩, List.mem_of_getElem? (i := 642) (by decide +kernel), List.mem_of_getElem? (i := 891) (by decide +kernel), List.mem_of_getElem? (i := 892) (by decide +kernel)⟩
theorem lw_p29 : lw_okq (⟨"LandTakenModel", "work", "(I)V"⟩, 46) := ⟨⟨by decide +kernel, by decide +kernel⟩, List.mem_of_getElem? (i := 642) (by decide +kernel), List.mem_of_getElem? (i := 895) (by decide +kernel), List.mem_of_getElem? (i := 896) (by decide +kernel)⟩
theorem lw_p30 : lw_okq (⟨"LandTakenModel", "beside", "(II)I"⟩, 46) := ⟨⟨by decide +kernel, by decide +kernel⟩, List.mem_of_getElem? (i := 642) (by decide +kernel), List.mem_of_getElem? (i := 899) (by decide +kernel), List.mem_of_getElem? (i := 900) (by decide +kernel)⟩
theorem lw_p31 : lw_okq (⟨"LandTakenModel", "divide", "(I)V"⟩, 46) := ⟨⟨by decide +kernel, by decide +kernel⟩, List.mem_of_getElem? (i := 642) (by decide +kernel), List.mem_of_getElem? (i := 909) (by decide +kernel), List.mem_of_getElem? (i := 910) (by decide +kernel)⟩
def lw_privs_2 : List (MethodName × Nat) := [(⟨"LandTaken", "casesOfLatest", "()I"⟩, 11), (⟨"LandTaken", "mixedCells", "(J)J"⟩, 11), (⟨"LandTaken", "mixedFields", "(J)J"⟩, 11), (⟨"LandTaken", "mixedOrders", "(J)J"⟩, 11), (⟨"LandTakenModel", "fresh", "()V"⟩, 46), (⟨"LandTakenModel", "isCell", "(II)Z"⟩, 46), (⟨"LandTakenModel", "isField", "(I)Z"⟩, 46), (⟨"LandTakenModel", "clearHouse", "(I)V"⟩, 46), (⟨"LandTakenModel", "costOf", "(II)I"⟩, 46), (⟨"LandTakenModel", "wanted", "(I)I"⟩, 46), (⟨"LandTakenModel", "isLeft", "(II)Z"⟩, 46), (⟨"LandTakenModel", "close", "()V"⟩, 46), (⟨"LandTakenModel", "mayEnter", "(II)Z"⟩, 46), (⟨"LandTakenModel", "work", "(I)V"⟩, 46), (⟨"LandTakenModel", "beside", "(II)I"⟩, 46), (⟨"LandTakenModel", "divide", "(I)V"⟩, 46)]
theorem lw_r2 : ∀ q ∈ lw_privs_2, lw_okq q := List.forall_mem_cons.mpr ⟨lw_p16, List.forall_mem_cons.mpr ⟨lw_p17, List.forall_mem_cons.mpr ⟨lw_p18, List.forall_mem_cons.mpr ⟨lw_p19, List.forall_mem_cons.mpr ⟨lw_p20, List.forall_mem_cons.mpr ⟨lw_p21, List.forall_mem_cons.mpr ⟨lw_p22, List.forall_mem_cons.mpr ⟨lw_p23, List.forall_mem_cons.mpr ⟨lw_p24, List.forall_mem_cons.mpr ⟨lw_p25, List.forall_mem_cons.mpr ⟨lw_p26, List.forall_mem_cons.mpr ⟨lw_p27, List.forall_mem_cons.mpr ⟨lw_p28, List.forall_mem_cons.mpr ⟨lw_p29, List.forall_mem_cons.mpr ⟨lw_p30, List.forall_mem_cons.mpr ⟨lw_p31, fun _ h => absurd h List.not_mem_nil⟩⟩⟩⟩⟩⟩⟩⟩⟩⟩⟩⟩⟩⟩⟩⟩
theorem lw_p32 : lw_okq (⟨"LandTakenModel", "spread", "(II)V"⟩, 46) := ⟨⟨by decide +kernel, by decide +kernel⟩, List.mem_of_getElem? (i := 642) (by decide +kernel), List.mem_of_getElem? (i := 913) (by decide +kernel), List.mem_of_getElem? (i := 914) (by decide +kernel)⟩
theorem lw_p33 : lw_okq (⟨"LandTakenModel", "mainOf", "(I)I"⟩, 46) := ⟨⟨by decide +kernel, by decide +kernel⟩, List.mem_of_getElem? (i := 642) (by decide +kernel), List.mem_of_getElem? (i := 917) (by decide +kernel), List.mem_of_getElem? (i := 918) (by decide +kernel)⟩
theorem lw_p34 : lw_okq (⟨"LandTakenModel", "pricesOf", "(I)J"⟩, 46) := ⟨⟨by decide +kernel, by decide +kernel⟩, List.mem_of_getElem? (i := 642) (by decide +kernel), List.mem_of_getElem? (i := 921) (by decide +kernel), List.mem_of_getElem? (i := 922) (by decide +kernel)⟩
theorem lw_p35 : lw_okq (⟨"LandTakenModel", "hasWay", "(I)Z"⟩, 46) := ⟨⟨by decide +kernel, by decide +kernel⟩, List.mem_of_getElem? (i := 642) (by decide +kernel), List.mem_of_getElem? (i := 925) (by decide +kernel), List.mem_of_getElem? (i := 926) (by decide +kernel)⟩
theorem lw_p36 : lw_okq (⟨"LandTakenModel", "lossBefore", "(I)J"⟩, 46) := ⟨⟨by decide +kernel, by decide +kernel⟩, List.mem_of_getElem? (i := 642) (by decide +kernel), List.mem_of_getElem? (i := 929) (by decide +kernel), List.mem_of_getElem? (i := 930) (by decide +kernel)⟩
theorem lw_p37 : lw_okq (⟨"LandTakenModel", "share", "(I)V"⟩, 46) := ⟨⟨by decide +kernel, by decide +kernel⟩, List.mem_of_getElem? (i := 642) (by decide +kernel), List.mem_of_getElem? (i := 933) (by decide +kernel), List.mem_of_getElem? (i := 934) (by decide +kernel)⟩
theorem lw_p38 : lw_okq (⟨"LandTakenModel", "dueOf", "(I)J"⟩, 46) := ⟨⟨by decide +kernel, by decide +kernel⟩, List.mem_of_getElem? (i := 642) (by decide +kernel), List.mem_of_getElem? (i := 937) (by decide +kernel), List.mem_of_getElem? (i := 938) (by decide +kernel)⟩
theorem lw_p39 : lw_okq (⟨"LandTakenModel", "debtLeft", "(II)J"⟩, 46) := ⟨⟨by decide +kernel, by decide +kernel⟩, List.mem_of_getElem? (i := 642) (by decide +kernel), List.mem_of_getElem? (i := 941) (by decide +kernel), List.mem_of_getElem? (i := 942) (by decide +kernel)⟩
theorem lw_p40 : lw_okq (⟨"LandTakenModel", "isCase", "(II)Z"⟩, 46) := ⟨⟨by decide +kernel, by decide +kernel⟩, List.mem_of_getElem? (i := 642) (by decide +kernel), List.mem_of_getElem? (i := 954) (by decide +kernel), List.mem_of_getElem? (i := 955) (by decide +kernel)⟩
theorem lw_p41 : lw_okq (⟨"LandTakenModel", "interestOf", "(I)J"⟩, 46) := ⟨⟨by decide +kernel, by decide +kernel⟩, List.mem_of_getElem? (i := 642) (by decide +kernel), List.mem_of_getElem? (i := 961) (by decide +kernel), List.mem_of_getElem? (i := 962) (by decide +kernel)⟩
theorem lw_p42 : lw_okq (⟨"LandTakenModel", "owed", "(I)J"⟩, 46) := ⟨⟨by decide +kernel, by decide +kernel⟩, List.mem_of_getElem? (i := 642) (by decide +kernel), List.mem_of_getElem? (i := 965) (by decide +kernel), List.mem_of_getElem? (i := 966) (by decide +kernel)⟩
theorem lw_p43 : lw_okq (⟨"LandTakenModel", "toldOf", "(II)J"⟩, 46) := ⟨⟨by decide +kernel, by decide +kernel⟩, List.mem_of_getElem? (i := 642) (by decide +kernel), List.mem_of_getElem? (i := 974) (by decide +kernel), List.mem_of_getElem? (i := 975) (by decide +kernel)⟩
theorem lw_p44 : lw_okq (⟨"LandTakenModel", "lookOf", "(II)I"⟩, 46) := ⟨⟨by decide +kernel, by decide +kernel⟩, List.mem_of_getElem? (i := 642) (by decide +kernel), List.mem_of_getElem? (i := 986) (by decide +kernel), List.mem_of_getElem? (i := 987) (by decide +kernel)⟩
theorem lw_p45 : lw_okq (⟨"LandTakenModel", "mix", "(J)V"⟩, 46) := ⟨⟨by decide +kernel, by decide +kernel⟩, List.mem_of_getElem? (i := 642) (by decide +kernel), List.mem_of_getElem? (i := 1007) (by decide +kernel), List.mem_of_getElem? (i := 1008) (by decide +kernel)⟩
def lw_privs_3 : List (MethodName × Nat) := [(⟨"LandTakenModel", "spread", "(II)V"⟩, 46), (⟨"LandTakenModel", "mainOf", "(I)I"⟩, 46), (⟨"LandTakenModel", "pricesOf", "(I)J"⟩, 46), (⟨"LandTakenModel", "hasWay", "(I)Z"⟩, 46), (⟨"LandTakenModel", "lossBefore", "(I)J"⟩, 46), (⟨"LandTakenModel", "share", "(I)V"⟩, 46), (⟨"LandTakenModel", "dueOf", "(I)J"⟩, 46), (⟨"LandTakenModel", "debtLeft", "(II)J"⟩, 46), (⟨"LandTakenModel", "isCase", "(II)Z"⟩, 46), (⟨"LandTakenModel", "interestOf", "(I)J"⟩, 46), (⟨"LandTakenModel", "owed", "(I)J"⟩, 46), (⟨"LandTakenModel", "toldOf", "(II)J"⟩, 46), (⟨"LandTakenModel", "lookOf", "(II)I"⟩, 46), (⟨"LandTakenModel", "mix", "(J)V"⟩, 46)]
theorem lw_r3 : ∀ q ∈ lw_privs_3, lw_okq q := List.forall_mem_cons.mpr ⟨lw_p32, List.forall_mem_cons.mpr ⟨lw_p33, List.forall_mem_cons.mpr ⟨lw_p34, List.forall_mem_cons.mpr ⟨lw_p35, List.forall_mem_cons.mpr ⟨lw_p36, List.forall_mem_cons.mpr ⟨lw_p37, List.forall_mem_cons.mpr ⟨lw_p38, List.forall_mem_cons.mpr ⟨lw_p39, List.forall_mem_cons.mpr ⟨lw_p40, List.forall_mem_cons.mpr ⟨lw_p41, List.forall_mem_cons.mpr ⟨lw_p42, List.forall_mem_cons.mpr ⟨lw_p43, List.forall_mem_cons.mpr ⟨lw_p44, List.forall_mem_cons.mpr ⟨lw_p45, fun _ h => absurd h List.not_mem_nil⟩⟩⟩⟩⟩⟩⟩⟩⟩⟩⟩⟩⟩⟩
def lw_privs : List (MethodName × Nat) := lw_privs_1 ++ (lw_privs_2 ++ (lw_privs_3))
def lw_tbl : List Cond := k2_sels lw_privs ++ tables_1
theorem lw_privs_ok : ∀ q ∈ lw_privs, lw_okq q := by
  show ∀ q ∈ lw_privs_1 ++ (lw_privs_2 ++ (lw_privs_3)), lw_okq q
  exact List.forall_mem_append.mpr ⟨lw_r1, List.forall_mem_append.mpr ⟨lw_r2, lw_r3⟩⟩
def RX0 : String := "LandTaken$Case"
def TX0 : u_T := fun k => match k with
  | 0 => ("LandTaken$Case", "fieldNumber", "I", false)
  | 1 => ("LandTaken$Case", "cells", "I", false)
  | 2 => ("LandTaken$Case", "state", "I", false)
  | 3 => ("LandTaken$Case", "enteredOn", "I", false)
  | 4 => ("LandTaken$Case", "interestRate", "I", false)
  | 5 => ("LandTaken$Case", "countedTo", "I", false)
  | 6 => ("LandTaken$Case", "landWorth", "J", false)
  | 7 => ("LandTaken$Case", "loss", "J", false)
  | 8 => ("LandTaken$Case", "fence", "J", false)
  | 9 => ("LandTaken$Case", "better", "J", false)
  | 10 => ("LandTaken$Case", "due", "J", false)
  | 11 => ("LandTaken$Case", "paid", "J", false)
  | 12 => ("LandTaken$Case", "interestKept", "J", false)
  | 13 => ("LandTaken$Case", "interestPaid", "J", false)
  | 14 => ("LandTaken$Case", "ownerGets", "J", false)
  | _ => ("LandTaken$Case", "rightGets", "[J", true)
def tyX0 : Nat → FieldType := fun k => match k with
  | 0 => .int
  | 1 => .int
  | 2 => .int
  | 3 => .int
  | 4 => .int
  | 5 => .int
  | 6 => .long
  | 7 => .long
  | 8 => .long
  | 9 => .long
  | 10 => .long
  | 11 => .long
  | 12 => .long
  | 13 => .long
  | 14 => .long
  | _ => .array .long
abbrev wsX00 : List Cond := u_ws RX0 TX0 16
theorem nmX0 : ∀ a, a < 16 → ∀ b, b < 16 → a ≠ b → (TX0 a).2.1 ≠ (TX0 b).2.1 := by decide +kernel
theorem tyX0_ok : ∀ k, k < 16 → parseFieldDescriptor (TX0 k).2.2.1 = some (tyX0 k) := by decide +kernel
abbrev cX0_init : ByteArray := prog_2_method_1_code
def yX0_init : MethodName := ⟨RX0, "<init>", "()V"⟩
abbrev cX0_begin : ByteArray := prog_2_method_2_code
def yX0_begin : MethodName := ⟨RX0, "begin", "(II)V"⟩
abbrev cX0_isReady : ByteArray := prog_2_method_3_code
def yX0_isReady : MethodName := ⟨RX0, "isReady", "()Z"⟩
abbrev cX0_enterOn : ByteArray := prog_2_method_4_code
def yX0_enterOn : MethodName := ⟨RX0, "enterOn", "(II)V"⟩
abbrev cX0_owed : ByteArray := prog_2_method_5_code
def yX0_owed : MethodName := ⟨RX0, "owed", "()J"⟩
abbrev cX0_interestOn : ByteArray := prog_2_method_6_code
def yX0_interestOn : MethodName := ⟨RX0, "interestOn", "(I)J"⟩
abbrev cX0_receive : ByteArray := prog_2_method_7_code
def yX0_receive : MethodName := ⟨RX0, "receive", "(JI)J"⟩
abbrev cX0_tell : ByteArray := prog_2_method_8_code
def yX0_tell : MethodName := ⟨RX0, "tell", "(II)J"⟩
def RX1 : String := "LandTaken$Field"
def TX1 : u_T := fun k => match k with
  | 0 => ("LandTaken$Field", "housePlace", "I", false)
  | 1 => ("LandTaken$Field", "rightCount", "I", false)
  | 2 => ("LandTaken$Field", "kind", "[I", true)
  | 3 => ("LandTaken$Field", "amount", "[I", true)
  | _ => ("LandTaken$Field", "debtLeft", "[J", true)
def tyX1 : Nat → FieldType := fun k => match k with
  | 0 => .int
  | 1 => .int
  | 2 => .array .int
  | 3 => .array .int
  | _ => .array .long
abbrev wsX10 : List Cond := u_ws RX1 TX1 5
theorem nmX1 : ∀ a, a < 5 → ∀ b, b < 5 → a ≠ b → (TX1 a).2.1 ≠ (TX1 b).2.1 := by decide +kernel
theorem tyX1_ok : ∀ k, k < 5 → parseFieldDescriptor (TX1 k).2.2.1 = some (tyX1 k) := by decide +kernel
abbrev cX1_init : ByteArray := prog_3_method_1_code
def yX1_init : MethodName := ⟨RX1, "<init>", "()V"⟩
abbrev cX1_clear : ByteArray := prog_3_method_2_code
def yX1_clear : MethodName := ⟨RX1, "clear", "()V"⟩
abbrev cX1_addRight : ByteArray := prog_3_method_3_code
def yX1_addRight : MethodName := ⟨RX1, "addRight", "(II)I"⟩
def RX2 : String := "LandTaken$Land"
def TX2 : u_T := fun k => match k with
  | 0 => ("LandTaken$Land", "wide", "I", false)
  | 1 => ("LandTaken$Land", "high", "I", false)
  | 2 => ("LandTaken$Land", "owner", "[I", true)
  | 3 => ("LandTaken$Land", "soil", "[I", true)
  | 4 => ("LandTaken$Land", "isLane", "[Z", true)
  | 5 => ("LandTaken$Land", "inLine", "[Z", true)
  | _ => ("LandTaken$Land", "takenBy", "[I", true)
def tyX2 : Nat → FieldType := fun k => match k with
  | 0 => .int
  | 1 => .int
  | 2 => .array .int
  | 3 => .array .int
  | 4 => .array .boolean
  | 5 => .array .boolean
  | _ => .array .int
abbrev wsX20 : List Cond := u_ws RX2 TX2 7
theorem nmX2 : ∀ a, a < 7 → ∀ b, b < 7 → a ≠ b → (TX2 a).2.1 ≠ (TX2 b).2.1 := by decide +kernel
theorem tyX2_ok : ∀ k, k < 7 → parseFieldDescriptor (TX2 k).2.2.1 = some (tyX2 k) := by decide +kernel
abbrev cX2_init : ByteArray := prog_4_method_1_code
def yX2_init : MethodName := ⟨RX2, "<init>", "()V"⟩
abbrev cX2_renew : ByteArray := prog_4_method_2_code
def yX2_renew : MethodName := ⟨RX2, "renew", "(II)V"⟩
abbrev cX2_at : ByteArray := prog_4_method_3_code
def yX2_at : MethodName := ⟨RX2, "at", "(II)I"⟩
abbrev cX2_beside : ByteArray := prog_4_method_4_code
def yX2_beside : MethodName := ⟨RX2, "beside", "(II)I"⟩
abbrev cX2_isTaken : ByteArray := prog_4_method_5_code
def yX2_isTaken : MethodName := ⟨RX2, "isTaken", "(I)Z"⟩
abbrev cX2_isKept : ByteArray := prog_4_method_6_code
def yX2_isKept : MethodName := ⟨RX2, "isKept", "(II)Z"⟩
abbrev cX2_isInLineOf : ByteArray := prog_4_method_7_code
def yX2_isInLineOf : MethodName := ⟨RX2, "isInLineOf", "(II)Z"⟩
abbrev cX2_isOpenLane : ByteArray := prog_4_method_8_code
def yX2_isOpenLane : MethodName := ⟨RX2, "isOpenLane", "(I)Z"⟩
abbrev cX2_cellsInLine : ByteArray := prog_4_method_9_code
def yX2_cellsInLine : MethodName := ⟨RX2, "cellsInLine", "(I)I"⟩
abbrev cX2_cellsChosen : ByteArray := prog_4_method_10_code
def yX2_cellsChosen : MethodName := ⟨RX2, "cellsChosen", "()I"⟩
abbrev cX2_cellsTaken : ByteArray := prog_4_method_11_code
def yX2_cellsTaken : MethodName := ⟨RX2, "cellsTaken", "()I"⟩
abbrev cX2_takeLine : ByteArray := prog_4_method_12_code
def yX2_takeLine : MethodName := ⟨RX2, "takeLine", "(II)V"⟩
abbrev cX2_giveBack : ByteArray := prog_4_method_13_code
def yX2_giveBack : MethodName := ⟨RX2, "giveBack", "(I)V"⟩
abbrev cX2_emptyLine : ByteArray := prog_4_method_14_code
def yX2_emptyLine : MethodName := ⟨RX2, "emptyLine", "()V"⟩
abbrev cX2_worthInLine : ByteArray := prog_4_method_15_code
def yX2_worthInLine : MethodName := ⟨RX2, "worthInLine", "(I[I)J"⟩
abbrev cX2_priceAt : ByteArray := prog_4_method_16_code
def yX2_priceAt : MethodName := ⟨RX2, "priceAt", "(I[I)I"⟩
abbrev cX2_fenceSides : ByteArray := prog_4_method_17_code
def yX2_fenceSides : MethodName := ⟨RX2, "fenceSides", "(I)I"⟩
abbrev cX2_keptSides : ByteArray := prog_4_method_18_code
def yX2_keptSides : MethodName := ⟨RX2, "keptSides", "(II)I"⟩
def RX3 : String := "LandTaken$Order"
def TX3 : u_T := fun k => match k with
  | 0 => ("LandTaken$Order", "madeOn", "I", false)
  | 1 => ("LandTaken$Order", "noticeDays", "I", false)
  | 2 => ("LandTaken$Order", "caseCount", "I", false)
  | _ => ("LandTaken$Order", "cases", "[LLandTaken$Case;", true)
def tyX3 : Nat → FieldType := fun k => match k with
  | 0 => .int
  | 1 => .int
  | 2 => .int
  | _ => .array (.object "LandTaken$Case")
abbrev wsX30 : List Cond := u_ws RX3 TX3 4
theorem nmX3 : ∀ a, a < 4 → ∀ b, b < 4 → a ≠ b → (TX3 a).2.1 ≠ (TX3 b).2.1 := by decide +kernel
theorem tyX3_ok : ∀ k, k < 4 → parseFieldDescriptor (TX3 k).2.2.1 = some (tyX3 k) := by decide +kernel
abbrev cX3_init : ByteArray := prog_5_method_1_code
def yX3_init : MethodName := ⟨RX3, "<init>", "()V"⟩
abbrev cX3_begin : ByteArray := prog_5_method_2_code
def yX3_begin : MethodName := ⟨RX3, "begin", "(II)V"⟩
abbrev cX3_addCase : ByteArray := prog_5_method_3_code
def yX3_addCase : MethodName := ⟨RX3, "addCase", "(II)V"⟩
abbrev cX3_caseAt : ByteArray := prog_5_method_4_code
def yX3_caseAt : MethodName := ⟨RX3, "caseAt", "(I)LLandTaken$Case;"⟩
abbrev cX3_noticeEnd : ByteArray := prog_5_method_5_code
def yX3_noticeEnd : MethodName := ⟨RX3, "noticeEnd", "()I"⟩
abbrev cX3_hasReady : ByteArray := prog_5_method_6_code
def yX3_hasReady : MethodName := ⟨RX3, "hasReady", "()Z"⟩
abbrev cX3_isDone : ByteArray := prog_5_method_7_code
def yX3_isDone : MethodName := ⟨RX3, "isDone", "()Z"⟩
abbrev cX3_lossOf : ByteArray := prog_5_method_8_code
def yX3_lossOf : MethodName := ⟨RX3, "lossOf", "(I)J"⟩
def RX4 : String := "LandTaken$Prices"
def TX4 : u_T := fun k => match k with
  | 0 => ("LandTaken$Prices", "dayCount", "I", false)
  | 1 => ("LandTaken$Prices", "from", "[I", true)
  | _ => ("LandTaken$Prices", "value", "[I", true)
def tyX4 : Nat → FieldType := fun k => match k with
  | 0 => .int
  | 1 => .array .int
  | _ => .array .int
abbrev wsX40 : List Cond := u_ws RX4 TX4 3
theorem nmX4 : ∀ a, a < 3 → ∀ b, b < 3 → a ≠ b → (TX4 a).2.1 ≠ (TX4 b).2.1 := by decide +kernel
theorem tyX4_ok : ∀ k, k < 3 → parseFieldDescriptor (TX4 k).2.2.1 = some (tyX4 k) := by decide +kernel
abbrev cX4_init : ByteArray := prog_6_method_1_code
def yX4_init : MethodName := ⟨RX4, "<init>", "()V"⟩
abbrev cX4_put : ByteArray := prog_6_method_2_code
def yX4_put : MethodName := ⟨RX4, "put", "(II)I"⟩
abbrev cX4_on : ByteArray := prog_6_method_3_code
def yX4_on : MethodName := ⟨RX4, "on", "(I)I"⟩
def RX5 : String := "LandTaken$Split"
def TX5 : u_T := fun k => match k with
  | 0 => ("LandTaken$Split", "number", "I", false)
  | 1 => ("LandTaken$Split", "main", "I", false)
  | 2 => ("LandTaken$Split", "pieceAt", "[I", true)
  | 3 => ("LandTaken$Split", "size", "[I", true)
  | 4 => ("LandTaken$Split", "first", "[I", true)
  | 5 => ("LandTaken$Split", "way", "[Z", true)
  | _ => ("LandTaken$Split", "queue", "[I", true)
def tyX5 : Nat → FieldType := fun k => match k with
  | 0 => .int
  | 1 => .int
  | 2 => .array .int
  | 3 => .array .int
  | 4 => .array .int
  | 5 => .array .boolean
  | _ => .array .int
abbrev wsX50 : List Cond := u_ws RX5 TX5 7
theorem nmX5 : ∀ a, a < 7 → ∀ b, b < 7 → a ≠ b → (TX5 a).2.1 ≠ (TX5 b).2.1 := by decide +kernel
theorem tyX5_ok : ∀ k, k < 7 → parseFieldDescriptor (TX5 k).2.2.1 = some (tyX5 k) := by decide +kernel
abbrev cX5_init : ByteArray := prog_7_method_1_code
def yX5_init : MethodName := ⟨RX5, "<init>", "()V"⟩
abbrev cX5_find : ByteArray := prog_7_method_2_code
def yX5_find : MethodName := ⟨RX5, "find", "(LLandTaken$Land;II)V"⟩
abbrev cX5_spread : ByteArray := prog_7_method_3_code
def yX5_spread : MethodName := ⟨RX5, "spread", "(LLandTaken$Land;II)V"⟩
abbrev cX5_chosenMain : ByteArray := prog_7_method_4_code
def yX5_chosenMain : MethodName := ⟨RX5, "chosenMain", "(I)I"⟩
abbrev cX5_hasWay : ByteArray := prog_7_method_5_code
def yX5_hasWay : MethodName := ⟨RX5, "hasWay", "(I)Z"⟩
abbrev cX5_worth : ByteArray := prog_7_method_6_code
def yX5_worth : MethodName := ⟨RX5, "worth", "(ILLandTaken$Land;[I)J"⟩
abbrev cX5_tell : ByteArray := prog_7_method_7_code
def yX5_tell : MethodName := ⟨RX5, "tell", "(II)I"⟩
def RX6 : String := "LandTaken"
def TX6 : u_T := fun k => match k with
  | 0 => ("LandTaken", "land", "LLandTaken$Land;", true)
  | 1 => ("LandTaken", "split", "LLandTaken$Split;", true)
  | 2 => ("LandTaken", "fields", "[LLandTaken$Field;", true)
  | 3 => ("LandTaken", "fieldCount", "I", false)
  | 4 => ("LandTaken", "prices", "[LLandTaken$Prices;", true)
  | 5 => ("LandTaken", "pricesToday", "[I", true)
  | 6 => ("LandTaken", "rates", "[I", true)
  | 7 => ("LandTaken", "today", "I", false)
  | 8 => ("LandTaken", "orders", "[LLandTaken$Order;", true)
  | 9 => ("LandTaken", "orderCount", "I", false)
  | _ => ("LandTaken", "undoneCount", "I", false)
def tyX6 : Nat → FieldType := fun k => match k with
  | 0 => .object "LandTaken$Land"
  | 1 => .object "LandTaken$Split"
  | 2 => .array (.object "LandTaken$Field")
  | 3 => .int
  | 4 => .array (.object "LandTaken$Prices")
  | 5 => .array .int
  | 6 => .array .int
  | 7 => .int
  | 8 => .array (.object "LandTaken$Order")
  | 9 => .int
  | _ => .int
abbrev wsX60 : List Cond := u_ws RX6 TX6 11
theorem nmX6 : ∀ a, a < 11 → ∀ b, b < 11 → a ≠ b → (TX6 a).2.1 ≠ (TX6 b).2.1 := by decide +kernel
theorem tyX6_ok : ∀ k, k < 11 → parseFieldDescriptor (TX6 k).2.2.1 = some (tyX6 k) := by decide +kernel
abbrev cX6_init : ByteArray := prog_1_method_1_code
def yX6_init : MethodName := ⟨RX6, "<init>", "()V"⟩
abbrev cX6_map : ByteArray := prog_1_method_2_code
def yX6_map : MethodName := ⟨RX6, "map", "(II)I"⟩
abbrev cX6_field : ByteArray := prog_1_method_3_code
def yX6_field : MethodName := ⟨RX6, "field", "()I"⟩
abbrev cX6_cell : ByteArray := prog_1_method_4_code
def yX6_cell : MethodName := ⟨RX6, "cell", "(IIII)I"⟩
abbrev cX6_lane : ByteArray := prog_1_method_5_code
def yX6_lane : MethodName := ⟨RX6, "lane", "(II)I"⟩
abbrev cX6_house : ByteArray := prog_1_method_6_code
def yX6_house : MethodName := ⟨RX6, "house", "(III)I"⟩
abbrev cX6_right : ByteArray := prog_1_method_7_code
def yX6_right : MethodName := ⟨RX6, "right", "(III)I"⟩
abbrev cX6_wasOrderMade : ByteArray := prog_1_method_8_code
def yX6_wasOrderMade : MethodName := ⟨RX6, "wasOrderMade", "()Z"⟩
abbrev cX6_isField : ByteArray := prog_1_method_9_code
def yX6_isField : MethodName := ⟨RX6, "isField", "(I)Z"⟩
abbrev cX6_isSoil : ByteArray := prog_1_method_10_code
def yX6_isSoil : MethodName := ⟨RX6, "isSoil", "(I)Z"⟩
abbrev cX6_isAmount : ByteArray := prog_1_method_11_code
def yX6_isAmount : MethodName := ⟨RX6, "isAmount", "(II)Z"⟩
abbrev cX6_pullDownHouse : ByteArray := prog_1_method_12_code
def yX6_pullDownHouse : MethodName := ⟨RX6, "pullDownHouse", "(I)V"⟩
abbrev cX6_price : ByteArray := prog_1_method_13_code
def yX6_price : MethodName := ⟨RX6, "price", "(III)I"⟩
abbrev cX6_costs : ByteArray := prog_1_method_14_code
def yX6_costs : MethodName := ⟨RX6, "costs", "(II)I"⟩
abbrev cX6_rate : ByteArray := prog_1_method_15_code
def yX6_rate : MethodName := ⟨RX6, "rate", "(II)I"⟩
abbrev cX6_days : ByteArray := prog_1_method_16_code
def yX6_days : MethodName := ⟨RX6, "days", "(I)I"⟩
abbrev cX6_isDay : ByteArray := prog_1_method_17_code
def yX6_isDay : MethodName := ⟨RX6, "isDay", "(I)Z"⟩
abbrev cX6_line : ByteArray := prog_1_method_18_code
def yX6_line : MethodName := ⟨RX6, "line", "(IIZ)I"⟩
abbrev cX6_make : ByteArray := prog_1_method_19_code
def yX6_make : MethodName := ⟨RX6, "make", "()I"⟩
abbrev cX6_object : ByteArray := prog_1_method_20_code
def yX6_object : MethodName := ⟨RX6, "object", "(I)I"⟩
abbrev cX6_hear : ByteArray := prog_1_method_21_code
def yX6_hear : MethodName := ⟨RX6, "hear", "(IZ)I"⟩
abbrev cX6_enter : ByteArray := prog_1_method_22_code
def yX6_enter : MethodName := ⟨RX6, "enter", "()I"⟩
abbrev cX6_undo : ByteArray := prog_1_method_23_code
def yX6_undo : MethodName := ⟨RX6, "undo", "()J"⟩
abbrev cX6_orderAt : ByteArray := prog_1_method_24_code
def yX6_orderAt : MethodName := ⟨RX6, "orderAt", "(I)LLandTaken$Order;"⟩
abbrev cX6_latestOrder : ByteArray := prog_1_method_25_code
def yX6_latestOrder : MethodName := ⟨RX6, "latestOrder", "()LLandTaken$Order;"⟩
abbrev cX6_openOrder : ByteArray := prog_1_method_26_code
def yX6_openOrder : MethodName := ⟨RX6, "openOrder", "()LLandTaken$Order;"⟩
abbrev cX6_caseOf : ByteArray := prog_1_method_27_code
def yX6_caseOf : MethodName := ⟨RX6, "caseOf", "(II)LLandTaken$Case;"⟩
abbrev cX6_touchesField : ByteArray := prog_1_method_28_code
def yX6_touchesField : MethodName := ⟨RX6, "touchesField", "()Z"⟩
abbrev cX6_emptyLineIfDone : ByteArray := prog_1_method_29_code
def yX6_emptyLineIfDone : MethodName := ⟨RX6, "emptyLineIfDone", "(LLandTaken$Order;)V"⟩
abbrev cX6_takeReadyCells : ByteArray := prog_1_method_30_code
def yX6_takeReadyCells : MethodName := ⟨RX6, "takeReadyCells", "(LLandTaken$Order;)V"⟩
abbrev cX6_settleReadyCases : ByteArray := prog_1_method_31_code
def yX6_settleReadyCases : MethodName := ⟨RX6, "settleReadyCases", "(LLandTaken$Order;)I"⟩
abbrev cX6_assess : ByteArray := prog_1_method_32_code
def yX6_assess : MethodName := ⟨RX6, "assess", "(LLandTaken$Case;LLandTaken$Field;)V"⟩
abbrev cX6_lossOfPieces : ByteArray := prog_1_method_33_code
def yX6_lossOfPieces : MethodName := ⟨RX6, "lossOfPieces", "()J"⟩
abbrev cX6_lossBefore : ByteArray := prog_1_method_34_code
def yX6_lossBefore : MethodName := ⟨RX6, "lossBefore", "(I)J"⟩
abbrev cX6_share : ByteArray := prog_1_method_35_code
def yX6_share : MethodName := ⟨RX6, "share", "(LLandTaken$Case;LLandTaken$Field;)V"⟩
abbrev cX6_oweDebtsAgain : ByteArray := prog_1_method_36_code
def yX6_oweDebtsAgain : MethodName := ⟨RX6, "oweDebtsAgain", "(LLandTaken$Case;)V"⟩
abbrev cX6_pay : ByteArray := prog_1_method_37_code
def yX6_pay : MethodName := ⟨RX6, "pay", "(IIJ)J"⟩
abbrev cX6_told : ByteArray := prog_1_method_38_code
def yX6_told : MethodName := ⟨RX6, "told", "(III)J"⟩
abbrev cX6_gets : ByteArray := prog_1_method_39_code
def yX6_gets : MethodName := ⟨RX6, "gets", "(III)J"⟩
abbrev cX6_look : ByteArray := prog_1_method_40_code
def yX6_look : MethodName := ⟨RX6, "look", "(III)I"⟩
abbrev cX6_pieces : ByteArray := prog_1_method_41_code
def yX6_pieces : MethodName := ⟨RX6, "pieces", "(I)I"⟩
abbrev cX6_piece : ByteArray := prog_1_method_42_code
def yX6_piece : MethodName := ⟨RX6, "piece", "(III)I"⟩
abbrev cX6_count : ByteArray := prog_1_method_43_code
def yX6_count : MethodName := ⟨RX6, "count", "(I)I"⟩
abbrev cX6_digest : ByteArray := prog_1_method_44_code
def yX6_digest : MethodName := ⟨RX6, "digest", "()J"⟩
abbrev cX6_casesOfLatest : ByteArray := prog_1_method_45_code
def yX6_casesOfLatest : MethodName := ⟨RX6, "casesOfLatest", "()I"⟩
abbrev cX6_mixed : ByteArray := prog_1_method_46_code
def yX6_mixed : MethodName := ⟨RX6, "mixed", "(JJ)J"⟩
abbrev cX6_mixedCells : ByteArray := prog_1_method_47_code
def yX6_mixedCells : MethodName := ⟨RX6, "mixedCells", "(J)J"⟩
abbrev cX6_mixedFields : ByteArray := prog_1_method_48_code
def yX6_mixedFields : MethodName := ⟨RX6, "mixedFields", "(J)J"⟩
abbrev cX6_mixedOrders : ByteArray := prog_1_method_49_code
def yX6_mixedOrders : MethodName := ⟨RX6, "mixedOrders", "(J)J"⟩
def RX7 : String := "LandTakenModel"
def TX7 : u_T := fun k => match k with
  | 0 => ("LandTakenModel", "width", "I", false)
  | 1 => ("LandTakenModel", "height", "I", false)
  | 2 => ("LandTakenModel", "fieldOf", "[I", true)
  | 3 => ("LandTakenModel", "soilOf", "[I", true)
  | 4 => ("LandTakenModel", "isLane", "[Z", true)
  | 5 => ("LandTakenModel", "inLine", "[Z", true)
  | 6 => ("LandTakenModel", "takenBy", "[I", true)
  | 7 => ("LandTakenModel", "fields", "I", false)
  | 8 => ("LandTakenModel", "houses", "[I", true)
  | 9 => ("LandTakenModel", "rightMany", "[I", true)
  | 10 => ("LandTakenModel", "rightKind", "[I", true)
  | 11 => ("LandTakenModel", "rightAmount", "[I", true)
  | 12 => ("LandTakenModel", "toldMany", "[I", true)
  | 13 => ("LandTakenModel", "toldDay", "[I", true)
  | 14 => ("LandTakenModel", "toldPrice", "[I", true)
  | 15 => ("LandTakenModel", "rates", "[I", true)
  | 16 => ("LandTakenModel", "today", "I", false)
  | 17 => ("LandTakenModel", "wasMade", "Z", false)
  | 18 => ("LandTakenModel", "undone", "I", false)
  | 19 => ("LandTakenModel", "orders", "I", false)
  | 20 => ("LandTakenModel", "isOpen", "Z", false)
  | 21 => ("LandTakenModel", "madeOn", "[I", true)
  | 22 => ("LandTakenModel", "noticeOf", "[I", true)
  | 23 => ("LandTakenModel", "cases", "[I", true)
  | 24 => ("LandTakenModel", "hasEntry", "[Z", true)
  | 25 => ("LandTakenModel", "caseField", "[I", true)
  | 26 => ("LandTakenModel", "caseState", "[I", true)
  | 27 => ("LandTakenModel", "caseCells", "[I", true)
  | 28 => ("LandTakenModel", "caseDay", "[I", true)
  | 29 => ("LandTakenModel", "caseRate", "[I", true)
  | 30 => ("LandTakenModel", "land", "[J", true)
  | 31 => ("LandTakenModel", "loss", "[J", true)
  | 32 => ("LandTakenModel", "fence", "[J", true)
  | 33 => ("LandTakenModel", "better", "[J", true)
  | 34 => ("LandTakenModel", "paidDue", "[J", true)
  | 35 => ("LandTakenModel", "paidInterest", "[J", true)
  | 36 => ("LandTakenModel", "interest", "[J", true)
  | 37 => ("LandTakenModel", "since", "[I", true)
  | 38 => ("LandTakenModel", "got", "[J", true)
  | 39 => ("LandTakenModel", "pieceOf", "[I", true)
  | 40 => ("LandTakenModel", "queue", "[I", true)
  | 41 => ("LandTakenModel", "pieceMany", "I", false)
  | 42 => ("LandTakenModel", "pieceFirst", "[I", true)
  | 43 => ("LandTakenModel", "pieceSize", "[I", true)
  | 44 => ("LandTakenModel", "taken", "[Z", true)
  | _ => ("LandTakenModel", "h", "J", false)
def tyX7 : Nat → FieldType := fun k => match k with
  | 0 => .int
  | 1 => .int
  | 2 => .array .int
  | 3 => .array .int
  | 4 => .array .boolean
  | 5 => .array .boolean
  | 6 => .array .int
  | 7 => .int
  | 8 => .array .int
  | 9 => .array .int
  | 10 => .array .int
  | 11 => .array .int
  | 12 => .array .int
  | 13 => .array .int
  | 14 => .array .int
  | 15 => .array .int
  | 16 => .int
  | 17 => .boolean
  | 18 => .int
  | 19 => .int
  | 20 => .boolean
  | 21 => .array .int
  | 22 => .array .int
  | 23 => .array .int
  | 24 => .array .boolean
  | 25 => .array .int
  | 26 => .array .int
  | 27 => .array .int
  | 28 => .array .int
  | 29 => .array .int
  | 30 => .array .long
  | 31 => .array .long
  | 32 => .array .long
  | 33 => .array .long
  | 34 => .array .long
  | 35 => .array .long
  | 36 => .array .long
  | 37 => .array .int
  | 38 => .array .long
  | 39 => .array .int
  | 40 => .array .int
  | 41 => .int
  | 42 => .array .int
  | 43 => .array .int
  | 44 => .array .boolean
  | _ => .long
abbrev wsX70 : List Cond := u_ws RX7 TX7 46
theorem nmX7 : ∀ a, a < 46 → ∀ b, b < 46 → a ≠ b → (TX7 a).2.1 ≠ (TX7 b).2.1 := by decide +kernel
theorem tyX7_ok : ∀ k, k < 46 → parseFieldDescriptor (TX7 k).2.2.1 = some (tyX7 k) := by decide +kernel
abbrev cX7_init : ByteArray := prog_9_method_1_code
def yX7_init : MethodName := ⟨RX7, "<init>", "()V"⟩
abbrev cX7_in : ByteArray := prog_9_method_3_code
def yX7_in : MethodName := ⟨RX7, "in", "(JJJ)Z"⟩
abbrev cX7_fresh : ByteArray := prog_9_method_4_code
def yX7_fresh : MethodName := ⟨RX7, "fresh", "()V"⟩
abbrev cX7_isCell : ByteArray := prog_9_method_5_code
def yX7_isCell : MethodName := ⟨RX7, "isCell", "(II)Z"⟩
abbrev cX7_isField : ByteArray := prog_9_method_6_code
def yX7_isField : MethodName := ⟨RX7, "isField", "(I)Z"⟩
abbrev cX7_map : ByteArray := prog_9_method_7_code
def yX7_map : MethodName := ⟨RX7, "map", "(II)I"⟩
abbrev cX7_field : ByteArray := prog_9_method_8_code
def yX7_field : MethodName := ⟨RX7, "field", "()I"⟩
abbrev cX7_clearHouse : ByteArray := prog_9_method_9_code
def yX7_clearHouse : MethodName := ⟨RX7, "clearHouse", "(I)V"⟩
abbrev cX7_cell : ByteArray := prog_9_method_10_code
def yX7_cell : MethodName := ⟨RX7, "cell", "(IIII)I"⟩
abbrev cX7_lane : ByteArray := prog_9_method_11_code
def yX7_lane : MethodName := ⟨RX7, "lane", "(II)I"⟩
abbrev cX7_house : ByteArray := prog_9_method_12_code
def yX7_house : MethodName := ⟨RX7, "house", "(III)I"⟩
abbrev cX7_right : ByteArray := prog_9_method_13_code
def yX7_right : MethodName := ⟨RX7, "right", "(III)I"⟩
abbrev cX7_price : ByteArray := prog_9_method_14_code
def yX7_price : MethodName := ⟨RX7, "price", "(III)I"⟩
abbrev cX7_costOf : ByteArray := prog_9_method_15_code
def yX7_costOf : MethodName := ⟨RX7, "costOf", "(II)I"⟩
abbrev cX7_costs : ByteArray := prog_9_method_16_code
def yX7_costs : MethodName := ⟨RX7, "costs", "(II)I"⟩
abbrev cX7_rate : ByteArray := prog_9_method_17_code
def yX7_rate : MethodName := ⟨RX7, "rate", "(II)I"⟩
abbrev cX7_days : ByteArray := prog_9_method_18_code
def yX7_days : MethodName := ⟨RX7, "days", "(I)I"⟩
abbrev cX7_overX : ByteArray := prog_9_method_19_code
def yX7_overX : MethodName := ⟨RX7, "overX", "(I)I"⟩
abbrev cX7_overY : ByteArray := prog_9_method_20_code
def yX7_overY : MethodName := ⟨RX7, "overY", "(I)I"⟩
abbrev cX7_beside : ByteArray := prog_9_method_21_code
def yX7_beside : MethodName := ⟨RX7, "beside", "(II)I"⟩
abbrev cX7_isLeft : ByteArray := prog_9_method_22_code
def yX7_isLeft : MethodName := ⟨RX7, "isLeft", "(II)Z"⟩
abbrev cX7_spread : ByteArray := prog_9_method_23_code
def yX7_spread : MethodName := ⟨RX7, "spread", "(II)V"⟩
abbrev cX7_divide : ByteArray := prog_9_method_24_code
def yX7_divide : MethodName := ⟨RX7, "divide", "(I)V"⟩
abbrev cX7_mainOf : ByteArray := prog_9_method_25_code
def yX7_mainOf : MethodName := ⟨RX7, "mainOf", "(I)I"⟩
abbrev cX7_hasWay : ByteArray := prog_9_method_26_code
def yX7_hasWay : MethodName := ⟨RX7, "hasWay", "(I)Z"⟩
abbrev cX7_pricesOf : ByteArray := prog_9_method_27_code
def yX7_pricesOf : MethodName := ⟨RX7, "pricesOf", "(I)J"⟩
abbrev cX7_isCase : ByteArray := prog_9_method_28_code
def yX7_isCase : MethodName := ⟨RX7, "isCase", "(II)Z"⟩
abbrev cX7_line : ByteArray := prog_9_method_29_code
def yX7_line : MethodName := ⟨RX7, "line", "(IIZ)I"⟩
abbrev cX7_wanted : ByteArray := prog_9_method_30_code
def yX7_wanted : MethodName := ⟨RX7, "wanted", "(I)I"⟩
abbrev cX7_make : ByteArray := prog_9_method_31_code
def yX7_make : MethodName := ⟨RX7, "make", "()I"⟩
abbrev cX7_object : ByteArray := prog_9_method_32_code
def yX7_object : MethodName := ⟨RX7, "object", "(I)I"⟩
abbrev cX7_close : ByteArray := prog_9_method_33_code
def yX7_close : MethodName := ⟨RX7, "close", "()V"⟩
abbrev cX7_hear : ByteArray := prog_9_method_34_code
def yX7_hear : MethodName := ⟨RX7, "hear", "(IZ)I"⟩
abbrev cX7_mayEnter : ByteArray := prog_9_method_35_code
def yX7_mayEnter : MethodName := ⟨RX7, "mayEnter", "(II)Z"⟩
abbrev cX7_enter : ByteArray := prog_9_method_36_code
def yX7_enter : MethodName := ⟨RX7, "enter", "()I"⟩
abbrev cX7_work : ByteArray := prog_9_method_37_code
def yX7_work : MethodName := ⟨RX7, "work", "(I)V"⟩
abbrev cX7_lossBefore : ByteArray := prog_9_method_38_code
def yX7_lossBefore : MethodName := ⟨RX7, "lossBefore", "(I)J"⟩
abbrev cX7_debtLeft : ByteArray := prog_9_method_39_code
def yX7_debtLeft : MethodName := ⟨RX7, "debtLeft", "(II)J"⟩
abbrev cX7_dueOf : ByteArray := prog_9_method_40_code
def yX7_dueOf : MethodName := ⟨RX7, "dueOf", "(I)J"⟩
abbrev cX7_share : ByteArray := prog_9_method_41_code
def yX7_share : MethodName := ⟨RX7, "share", "(I)V"⟩
abbrev cX7_undo : ByteArray := prog_9_method_42_code
def yX7_undo : MethodName := ⟨RX7, "undo", "()J"⟩
abbrev cX7_owed : ByteArray := prog_9_method_43_code
def yX7_owed : MethodName := ⟨RX7, "owed", "(I)J"⟩
abbrev cX7_interestOf : ByteArray := prog_9_method_44_code
def yX7_interestOf : MethodName := ⟨RX7, "interestOf", "(I)J"⟩
abbrev cX7_pay : ByteArray := prog_9_method_45_code
def yX7_pay : MethodName := ⟨RX7, "pay", "(IIJ)J"⟩
abbrev cX7_toldOf : ByteArray := prog_9_method_46_code
def yX7_toldOf : MethodName := ⟨RX7, "toldOf", "(II)J"⟩
abbrev cX7_told : ByteArray := prog_9_method_47_code
def yX7_told : MethodName := ⟨RX7, "told", "(III)J"⟩
abbrev cX7_gets : ByteArray := prog_9_method_48_code
def yX7_gets : MethodName := ⟨RX7, "gets", "(III)J"⟩
abbrev cX7_lookOf : ByteArray := prog_9_method_49_code
def yX7_lookOf : MethodName := ⟨RX7, "lookOf", "(II)I"⟩
abbrev cX7_look : ByteArray := prog_9_method_50_code
def yX7_look : MethodName := ⟨RX7, "look", "(III)I"⟩
abbrev cX7_pieces : ByteArray := prog_9_method_51_code
def yX7_pieces : MethodName := ⟨RX7, "pieces", "(I)I"⟩
abbrev cX7_piece : ByteArray := prog_9_method_52_code
def yX7_piece : MethodName := ⟨RX7, "piece", "(III)I"⟩
abbrev cX7_count : ByteArray := prog_9_method_53_code
def yX7_count : MethodName := ⟨RX7, "count", "(I)I"⟩
abbrev cX7_mix : ByteArray := prog_9_method_54_code
def yX7_mix : MethodName := ⟨RX7, "mix", "(J)V"⟩
abbrev cX7_digest : ByteArray := prog_9_method_55_code
def yX7_digest : MethodName := ⟨RX7, "digest", "()J"⟩
def RJ9 : String := "java/lang/Math"
def TJ9 : u_T := fun k => match k with
  | _ => ("", "", "", false)
def tyJ9 : Nat → FieldType := fun k => match k with
  | _ => .int
abbrev wsJ90 : List Cond := u_ws RJ9 TJ9 0
theorem nmJ9 : ∀ a, a < 0 → ∀ b, b < 0 → a ≠ b → (TJ9 a).2.1 ≠ (TJ9 b).2.1 := by decide +kernel
theorem tyJ9_ok : ∀ k, k < 0 → parseFieldDescriptor (TJ9 k).2.2.1 = some (tyJ9 k) := by decide +kernel
abbrev cJ9_max_f86c9 : ByteArray := prog_10_method_66_code
def yJ9_max_f86c9 : MethodName := ⟨RJ9, "max", "(JJ)J"⟩
abbrev cJ9_min_f86c9 : ByteArray := prog_10_method_70_code
def yJ9_min_f86c9 : MethodName := ⟨RJ9, "min", "(JJ)J"⟩
def RL : String := "LandTakenLaw"
abbrev cL_law : ByteArray := code
def yL_law : MethodName := ⟨RL, "law", "([I)Z"⟩
abbrev vwCl : List vw_C := [(RX0, TX0, 16), (RX1, TX1, 5), (RX2, TX2, 7), (RX3, TX3, 4), (RX4, TX4, 3), (RX5, TX5, 7), (RX6, TX6, 11), (RX7, TX7, 46)]
